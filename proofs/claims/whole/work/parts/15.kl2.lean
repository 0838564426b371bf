/-! ===== ArrowField: what changes the state ===== -/
section KM
variable {l : Launch} {s0 : State} {D : va_G} {g : Nat → ClassId}
set_option maxRecDepth 100000 in
set_option maxHeartbeats 4000000 in
theorem k_X4_archer (hl9 : l.stackTraces = false) (B : Base s0) {μ : mu} {L : Nat → Nat → Nat} {S : SS} (h0 : RX g L S μ) (hI : Iv S) {x y : Int32} : Cy l yX4_archer wsX4_archer (rmOf 7 3 18 130) s0 D (tyL g) [.ref (L 0 0), .int x, .int y] μ 3 18 (fun v μ' => arC S x y = 0 ∧ v = some (.int (nI S.nA)) ∧ RX g L (arS S x y) μ' ∧ FrC L μ μ') (fun E μ' => px9 [IAE, ISE] (arC S x y) E ∧ RX g L S μ' ∧ FrC L μ μ') := by
  refine Cy.of (cc := cX4_archer) (own := RX4) (maxL := 3) (ret := (some .int)) (by decide) rfl rfl (Nat.le_of_ble_eq_true rfl) ?_
  intro p e s m args below meth c Q C hE hnt hQ hQe
  obtain ⟨fh, fv, hR⟩ := h0
  have in_RX4 : ∀ w ∈ u_ws RX4 TX4 16, w ∈ wsX4_archer := by decide +kernel
  have in_RX0 : ∀ w ∈ u_ws RX0 TX0 12, w ∈ wsX4_archer := by decide +kernel
  have f51 : FL wsX4_archer RX4 51 6 "ArrowField" RX4 TX4 16 2 := ⟨in_RX4, rfl, by decide, by decide +kernel, Or.inl rfl⟩
  have f11 : FL wsX4_archer RX4 11 6 "ArrowField" RX4 TX4 16 0 := ⟨in_RX4, rfl, by decide, by decide +kernel, Or.inl rfl⟩
  have f61 : FL wsX4_archer RX4 61 2 "ArrowField$Archer" RX0 TX0 12 0 := ⟨in_RX0, rfl, by decide, by decide +kernel, Or.inl rfl⟩
  have f64 : FL wsX4_archer RX4 64 2 "ArrowField$Archer" RX0 TX0 12 1 := ⟨in_RX0, rfl, by decide, by decide +kernel, Or.inl rfl⟩
  refine aw_iload_n C dX4_archer_0 rfl ?_
  refine aw_bipush C (v := 20) (by decide) dX4_archer_1 ?_
  refine aw_bipush C (v := 60) (by decide) dX4_archer_3 ?_
  refine ax_callS (n := 3) C hE hQ hnt (k_X4_needBetween (x := x) (lo := 20) (hi := 60) hl9 B) gX4_archer_X4_needBetween rfl ⟨rfl, rfl⟩ (by decide +kernel) ⟨by decide, by decide⟩ rfl rfl (Nat.le_of_ble_eq_true rfl) dX4_archer_5 ⟨by decide, by decide⟩ ⟨by decide, by decide⟩ (fun E9 μ9 hp => by obtain ⟨rfl, hn, rfl⟩ := hp; exact ⟨⟨by simp [arC, hn], by simp [arC, hn]⟩, ⟨_, _, hR⟩, FrC.rf⟩) (fun v μ' hp => ?_)
  obtain ⟨hb1, rfl, hm9⟩ := hp
  replace hm9 := hm9.symm
  subst hm9
  refine aw_st (st' := []) rfl ?_
  refine aw_iload_n C dX4_archer_8 rfl ?_
  refine aw_iconst C (v := 0) (by decide) dX4_archer_9 ?_
  refine aw_bipush C (v := 9) (by decide) dX4_archer_10 ?_
  refine ax_callS (n := 3) C hE hQ hnt (k_X4_needBetween (x := y) (lo := 0) (hi := 9) hl9 B) gX4_archer_X4_needBetween rfl ⟨rfl, rfl⟩ (by decide +kernel) ⟨by decide, by decide⟩ rfl rfl (Nat.le_of_ble_eq_true rfl) dX4_archer_12 ⟨by decide, by decide⟩ ⟨by decide, by decide⟩ (fun E9 μ9 hp => by obtain ⟨rfl, hn, rfl⟩ := hp; exact ⟨⟨by simp [arC, hb1, hn], by simp [arC, hb1, hn]⟩, ⟨_, _, hR⟩, FrC.rf⟩) (fun v μ' hp => ?_)
  obtain ⟨hb2, rfl, hm9⟩ := hp
  replace hm9 := hm9.symm
  subst hm9
  refine aw_st (st' := []) rfl ?_
  refine aw_aload_n C dX4_archer_15 rfl ?_
  refine aw_get C f51 hR.mn rfl dX4_archer_16 ?_
  refine aw_bipush C (v := 6) (by decide) dX4_archer_19 ?_
  refine aw_icmp_lt C (tgt := 34) dX4_archer_21 (by decide) (fun c_21 => ?_) (fun c_21 => ?_)
  · have h6 : S.nA < 6 := (nI_ltI (by have := hI.A6; have := hI.Q6; omega) (by decide)).mp (by rw [← hI.1.1]; exact c_21)
    refine aw_aload_n C dX4_archer_34 rfl ?_
    refine aw_get C f11 hR.mn rfl dX4_archer_35 ?_
    refine aw_aload_n C dX4_archer_38 rfl ?_
    refine aw_get C f51 hR.mn rfl dX4_archer_39 ?_
    refine aw_aaldE C (t0 := 3) rfl hR.aA hI.1.1 ⟨h6, by decide⟩ rfl dX4_archer_42 ?_
    refine aw_iload_n C dX4_archer_43 rfl ?_
    refine aw_putE C f61 ftX0 (ty := .int) (by decide +kernel) rfl rfl (hR.ar h6) (Nat.le_of_ble_eq_true rfl) (fs' := [.int x, .int (S.A S.nA 1), .int (S.A S.nA 2), .int (S.A S.nA 3), .float (S.cr S.nA), .int (S.A S.nA 5), .int (S.A S.nA 6), .int (S.A S.nA 7), .int (S.A S.nA 8), .int (S.A S.nA 9), .int (S.A S.nA 10), .int (S.A S.nA 11)]) rfl dX4_archer_44 ?_
    refine aw_aload_n C dX4_archer_47 rfl ?_
    refine aw_get C f11 (mp_k hR.mn (hR.li.ne (v0 (by decide)) (v5 (by decide) h6) (Or.inl (by decide)))) rfl dX4_archer_48 ?_
    refine aw_aload_n C dX4_archer_51 rfl ?_
    refine aw_get C f51 (mp_k hR.mn (hR.li.ne (v0 (by decide)) (v5 (by decide) h6) (Or.inl (by decide)))) rfl dX4_archer_52 ?_
    refine aw_aaldE C (t0 := 3) rfl (mp_k hR.aA (hR.li.ne (v0 (by decide)) (v5 (by decide) h6) (Or.inl (by decide)))) hI.1.1 ⟨h6, by decide⟩ rfl dX4_archer_55 ?_
    refine aw_iload_n C dX4_archer_56 rfl ?_
    refine aw_putE C f64 ftX0 (ty := .int) (by decide +kernel) rfl rfl mp_s (Nat.le_of_ble_eq_true rfl) (fs' := [.int x, .int y, .int (S.A S.nA 2), .int (S.A S.nA 3), .float (S.cr S.nA), .int (S.A S.nA 5), .int (S.A S.nA 6), .int (S.A S.nA 7), .int (S.A S.nA 8), .int (S.A S.nA 9), .int (S.A S.nA 10), .int (S.A S.nA 11)]) rfl dX4_archer_57 ?_
    refine aw_mu mp_mp ?_
    refine aw_aload_n C dX4_archer_60 rfl ?_
    refine aw_dup C rfl dX4_archer_61 ?_
    refine aw_get C f51 (mp_k hR.mn (hR.li.ne (v0 (by decide)) (v5 (by decide) h6) (Or.inl (by decide)))) rfl dX4_archer_62 ?_
    refine aw_iconst C (v := 1) (by decide) dX4_archer_65 ?_
    refine aw_iadd C dX4_archer_66 ?_
    refine aw_putE C f51 ftX4 (ty := .int) (by decide +kernel) rfl rfl (mp_k hR.mn (hR.li.ne (v0 (by decide)) (v5 (by decide) h6) (Or.inl (by decide)))) (Nat.le_of_ble_eq_true rfl) (fs' := [.ref (L 1 0), .ref (L 2 0), .int ((S.c 2) + 1), .int (S.c 3), .int (S.c 4), .int (S.c 5), .int (S.c 6), .int (S.c 7), .int (S.c 8), .int (S.c 9), .int (S.c 10), .int (S.c 11), .ref (L 3 0), .int (S.c 13), .int (S.c 14), .ref (L 4 0)]) rfl dX4_archer_67 ?_
    refine aw_aload_n C dX4_archer_70 rfl ?_
    refine aw_get C f51 mp_s rfl dX4_archer_71 ?_
    refine aw_iconst C (v := 1) (by decide) dX4_archer_74 ?_
    refine aw_isub C dX4_archer_75 ?_
    refine aw_iret C hQe ?_ (by omega) (by omega) dX4_archer_76
    exact ⟨by simp [arC, hb1, hb2, h6], by rw [show S.c 2 + 1 - 1 = S.c 2 by rw [hI.1.1, nI_1, nI_pred], hI.1.1], ⟨_, _, ((hR.setA h6 _).setMn _).wnA _⟩, ((FrC.rf.mp (v5 (by decide) h6)).mp (v0 (by decide)))⟩
  · refine aw_throw C hE hQ hnt hl9 B.tz (cls := ISE) (text := "there are 6 archers") (ik := 54) (is := 56) (ic := 58) (by decide) (by decide +kernel) (by decide +kernel) B.str56 (by decide +kernel) xb58 B.xIS xo58 dX4_archer_24 dX4_archer_27 dX4_archer_28 dX4_archer_30 dX4_archer_33 (by decide) (by decide) (by decide) (by decide) (by decide) (by decide) ?_
    have h6 : ¬ S.nA < 6 := fun q => c_21 (by rw [hI.1.1]; exact nI_lt q (by decide))
    exact ⟨⟨by simp [arC, hb1, hb2, h6], by simp [arC, hb1, hb2, h6]⟩, ⟨_, _, hR⟩, FrC.rf⟩
set_option maxRecDepth 100000 in
set_option maxHeartbeats 4000000 in
theorem k_X4_quiver (hl9 : l.stackTraces = false) (B : Base s0) {μ : mu} {L : Nat → Nat → Nat} {S : SS} (h0 : RX g L S μ) (hI : Iv S) {x y : Int32} : Cy l yX4_quiver wsX4_quiver (rmOf 7 3 18 130) s0 D (tyL g) [.ref (L 0 0), .int x, .int y] μ 3 18 (fun v μ' => quC S x y = 0 ∧ v = some (.int (nI S.nQ)) ∧ RX g L (quS S x y) μ' ∧ FrC L μ μ') (fun E μ' => px9 [IAE, ISE] (quC S x y) E ∧ RX g L S μ' ∧ FrC L μ μ') := by
  refine Cy.of (cc := cX4_quiver) (own := RX4) (maxL := 3) (ret := (some .int)) (by decide) rfl rfl (Nat.le_of_ble_eq_true rfl) ?_
  intro p e s m args below meth c Q C hE hnt hQ hQe
  obtain ⟨fh, fv, hR⟩ := h0
  have in_RX4 : ∀ w ∈ u_ws RX4 TX4 16, w ∈ wsX4_quiver := by decide +kernel
  have in_RX3 : ∀ w ∈ u_ws RX3 TX3 5, w ∈ wsX4_quiver := by decide +kernel
  have f67 : FL wsX4_quiver RX4 67 6 "ArrowField" RX4 TX4 16 3 := ⟨in_RX4, rfl, by decide, by decide +kernel, Or.inl rfl⟩
  have f17 : FL wsX4_quiver RX4 17 6 "ArrowField" RX4 TX4 16 1 := ⟨in_RX4, rfl, by decide, by decide +kernel, Or.inl rfl⟩
  have f72 : FL wsX4_quiver RX4 72 5 "ArrowField$Quiver" RX3 TX3 5 0 := ⟨in_RX3, rfl, by decide, by decide +kernel, Or.inl rfl⟩
  have f75 : FL wsX4_quiver RX4 75 5 "ArrowField$Quiver" RX3 TX3 5 1 := ⟨in_RX3, rfl, by decide, by decide +kernel, Or.inl rfl⟩
  refine aw_iload_n C dX4_quiver_0 rfl ?_
  refine aw_sipush C (v := 200) (by decide) dX4_quiver_1 ?_
  refine aw_sipush C (v := 600) (by decide) dX4_quiver_4 ?_
  refine ax_callS (n := 3) C hE hQ hnt (k_X4_needBetween (x := x) (lo := 200) (hi := 600) hl9 B) gX4_quiver_X4_needBetween rfl ⟨rfl, rfl⟩ (by decide +kernel) ⟨by decide, by decide⟩ rfl rfl (Nat.le_of_ble_eq_true rfl) dX4_quiver_7 ⟨by decide, by decide⟩ ⟨by decide, by decide⟩ (fun E9 μ9 hp => by obtain ⟨rfl, hn, rfl⟩ := hp; exact ⟨⟨by simp [quC, hn], by simp [quC, hn]⟩, ⟨_, _, hR⟩, FrC.rf⟩) (fun v μ' hp => ?_)
  obtain ⟨hb1, rfl, hm9⟩ := hp
  replace hm9 := hm9.symm
  subst hm9
  refine aw_st (st' := []) rfl ?_
  refine aw_iload_n C dX4_quiver_10 rfl ?_
  refine aw_sipush C (v := 300) (by decide) dX4_quiver_11 ?_
  refine aw_sipush C (v := 1100) (by decide) dX4_quiver_14 ?_
  refine ax_callS (n := 3) C hE hQ hnt (k_X4_needBetween (x := y) (lo := 300) (hi := 1100) hl9 B) gX4_quiver_X4_needBetween rfl ⟨rfl, rfl⟩ (by decide +kernel) ⟨by decide, by decide⟩ rfl rfl (Nat.le_of_ble_eq_true rfl) dX4_quiver_17 ⟨by decide, by decide⟩ ⟨by decide, by decide⟩ (fun E9 μ9 hp => by obtain ⟨rfl, hn, rfl⟩ := hp; exact ⟨⟨by simp [quC, hb1, hn], by simp [quC, hb1, hn]⟩, ⟨_, _, hR⟩, FrC.rf⟩) (fun v μ' hp => ?_)
  obtain ⟨hb2, rfl, hm9⟩ := hp
  replace hm9 := hm9.symm
  subst hm9
  refine aw_st (st' := []) rfl ?_
  refine aw_aload_n C dX4_quiver_20 rfl ?_
  refine aw_get C f67 hR.mn rfl dX4_quiver_21 ?_
  refine aw_bipush C (v := 6) (by decide) dX4_quiver_24 ?_
  refine aw_icmp_lt C (tgt := 39) dX4_quiver_26 (by decide) (fun c_26 => ?_) (fun c_26 => ?_)
  · have h6 : S.nQ < 6 := (nI_ltI (by have := hI.A6; have := hI.Q6; omega) (by decide)).mp (by rw [← hI.1.2.2.1]; exact c_26)
    refine aw_aload_n C dX4_quiver_39 rfl ?_
    refine aw_get C f17 hR.mn rfl dX4_quiver_40 ?_
    refine aw_aload_n C dX4_quiver_43 rfl ?_
    refine aw_get C f67 hR.mn rfl dX4_quiver_44 ?_
    refine aw_aaldE C (t0 := 4) rfl hR.aQ hI.1.2.2.1 ⟨h6, by decide⟩ rfl dX4_quiver_47 ?_
    refine aw_iload_n C dX4_quiver_48 rfl ?_
    refine aw_putE C f72 ftX3 (ty := .int) (by decide +kernel) rfl rfl (hR.qu h6) (Nat.le_of_ble_eq_true rfl) (fs' := [.int x, .int (S.q S.nQ 1), .ref (L 7 S.nQ), .ref (L 8 S.nQ), .ref (L 9 S.nQ)]) rfl dX4_quiver_49 ?_
    refine aw_aload_n C dX4_quiver_52 rfl ?_
    refine aw_get C f17 (mp_k hR.mn (hR.li.ne (v0 (by decide)) (v5 (by decide) h6) (Or.inl (by decide)))) rfl dX4_quiver_53 ?_
    refine aw_aload_n C dX4_quiver_56 rfl ?_
    refine aw_get C f67 (mp_k hR.mn (hR.li.ne (v0 (by decide)) (v5 (by decide) h6) (Or.inl (by decide)))) rfl dX4_quiver_57 ?_
    refine aw_aaldE C (t0 := 4) rfl (mp_k hR.aQ (hR.li.ne (v0 (by decide)) (v5 (by decide) h6) (Or.inl (by decide)))) hI.1.2.2.1 ⟨h6, by decide⟩ rfl dX4_quiver_60 ?_
    refine aw_iload_n C dX4_quiver_61 rfl ?_
    refine aw_putE C f75 ftX3 (ty := .int) (by decide +kernel) rfl rfl mp_s (Nat.le_of_ble_eq_true rfl) (fs' := [.int x, .int y, .ref (L 7 S.nQ), .ref (L 8 S.nQ), .ref (L 9 S.nQ)]) rfl dX4_quiver_62 ?_
    refine aw_mu mp_mp ?_
    refine aw_aload_n C dX4_quiver_65 rfl ?_
    refine aw_dup C rfl dX4_quiver_66 ?_
    refine aw_get C f67 (mp_k hR.mn (hR.li.ne (v0 (by decide)) (v5 (by decide) h6) (Or.inl (by decide)))) rfl dX4_quiver_67 ?_
    refine aw_iconst C (v := 1) (by decide) dX4_quiver_70 ?_
    refine aw_iadd C dX4_quiver_71 ?_
    refine aw_putE C f67 ftX4 (ty := .int) (by decide +kernel) rfl rfl (mp_k hR.mn (hR.li.ne (v0 (by decide)) (v5 (by decide) h6) (Or.inl (by decide)))) (Nat.le_of_ble_eq_true rfl) (fs' := [.ref (L 1 0), .ref (L 2 0), .int (S.c 2), .int ((S.c 3) + 1), .int (S.c 4), .int (S.c 5), .int (S.c 6), .int (S.c 7), .int (S.c 8), .int (S.c 9), .int (S.c 10), .int (S.c 11), .ref (L 3 0), .int (S.c 13), .int (S.c 14), .ref (L 4 0)]) rfl dX4_quiver_72 ?_
    refine aw_aload_n C dX4_quiver_75 rfl ?_
    refine aw_get C f67 mp_s rfl dX4_quiver_76 ?_
    refine aw_iconst C (v := 1) (by decide) dX4_quiver_79 ?_
    refine aw_isub C dX4_quiver_80 ?_
    refine aw_iret C hQe ?_ (by omega) (by omega) dX4_quiver_81
    exact ⟨by simp [quC, hb1, hb2, h6], by rw [show S.c 3 + 1 - 1 = S.c 3 by rw [hI.1.2.2.1, nI_1, nI_pred], hI.1.2.2.1], ⟨_, _, ((hR.setQu h6 _).setMn _).wnQ _⟩, ((FrC.rf.mp (v5 (by decide) h6)).mp (v0 (by decide)))⟩
  · refine aw_throw C hE hQ hnt hl9 B.tz (cls := ISE) (text := "there are 6 quivers") (ik := 54) (is := 70) (ic := 58) (by decide) (by decide +kernel) (by decide +kernel) B.str70 (by decide +kernel) xb58 B.xIS xo58 dX4_quiver_29 dX4_quiver_32 dX4_quiver_33 dX4_quiver_35 dX4_quiver_38 (by decide) (by decide) (by decide) (by decide) (by decide) (by decide) ?_
    have h6 : ¬ S.nQ < 6 := fun q => c_26 (by rw [hI.1.2.2.1]; exact nI_lt q (by decide))
    exact ⟨⟨by simp [quC, hb1, hb2, h6], by simp [quC, hb1, hb2, h6]⟩, ⟨_, _, hR⟩, FrC.rf⟩
set_option maxRecDepth 100000 in
set_option maxHeartbeats 4000000 in
theorem k_X4_tune (hl9 : l.stackTraces = false) (B : Base s0) {μ : mu} {L : Nat → Nat → Nat} {S : SS} (h0 : RX g L S μ) (hI : Iv S) {x y z : Int32} : Cy l yX4_tune wsX4_tune (rmOf 7 3 18 130) s0 D (tyL g) [.ref (L 0 0), .int x, .int y, .int z] μ 3 18 (fun v μ' => tuC S x y z = 0 ∧ v = some (.int (S.A (ix x) 2)) ∧ RX g L (tuS S (ix x) y z) μ' ∧ FrC L μ μ') (fun E μ' => px9 [IOB, IAE] (tuC S x y z) E ∧ RX g L S μ' ∧ FrC L μ μ') := by
  refine Cy.of (cc := cX4_tune) (own := RX4) (maxL := 6) (ret := (some .int)) (by decide) rfl rfl (Nat.le_of_ble_eq_true rfl) ?_
  intro p e s m args below meth c Q C hE hnt hQ hQe
  obtain ⟨fh, fv, hR⟩ := h0
  have in_RX0 : ∀ w ∈ u_ws RX0 TX0 12, w ∈ wsX4_tune := by decide +kernel
  have f99 : FL wsX4_tune RX4 99 2 "ArrowField$Archer" RX0 TX0 12 2 := ⟨in_RX0, rfl, by decide, by decide +kernel, Or.inl rfl⟩
  have f102 : FL wsX4_tune RX4 102 2 "ArrowField$Archer" RX0 TX0 12 3 := ⟨in_RX0, rfl, by decide, by decide +kernel, Or.inl rfl⟩
  refine aw_aload_n C dX4_tune_0 rfl ?_
  refine aw_iload_n C dX4_tune_1 rfl ?_
  refine ax_callV (n := 1) C hE hQ hnt (ci := 6) (q := (RX4, TX4, 16)) (k_X4_archerNumbered (x := x) hl9 B ⟨_, _, hR⟩ hI) gX4_tune_X4_archerNumbered rfl ⟨rfl, rfl⟩ (by decide +kernel) ⟨by decide, by decide⟩ rfl rfl hR.mn rfl (Nat.le_of_ble_eq_true rfl) dX4_tune_2 ⟨by decide, by decide⟩ ⟨by decide, by decide⟩ (fun E9 μ9 hp => by obtain ⟨rfl, hn, rfl⟩ := hp; exact ⟨⟨by simp [tuC, hn], by simp [tuC, hn]⟩, ⟨_, _, hR⟩, FrC.rf⟩) (fun v μ' hp => ?_)
  obtain ⟨hb1, ⟨j, hj, rfl, rfl⟩, hm9⟩ := hp
  replace hm9 := hm9.symm
  subst hm9
  refine aw_st (st' := [.ref (L 5 j)]) rfl ?_
  have hj6 : j < 6 := Nat.lt_of_lt_of_le hj hI.A6
  refine aw_astore C dX4_tune_5 (by decide) ?_
  refine aw_iload_n C dX4_tune_7 rfl ?_
  refine aw_iconst C (v := 0) (by decide) dX4_tune_8 ?_
  refine aw_bipush C (v := 127) (by decide) dX4_tune_9 ?_
  refine ax_callS (n := 3) C hE hQ hnt (k_X4_needBetween (x := y) (lo := 0) (hi := 127) hl9 B) gX4_tune_X4_needBetween rfl ⟨rfl, rfl⟩ (by decide +kernel) ⟨by decide, by decide⟩ rfl rfl (Nat.le_of_ble_eq_true rfl) dX4_tune_11 ⟨by decide, by decide⟩ ⟨by decide, by decide⟩ (fun E9 μ9 hp => by obtain ⟨rfl, hn, rfl⟩ := hp; exact ⟨⟨by simp [tuC, hb1, hn], by simp [tuC, hb1, hn]⟩, ⟨_, _, hR⟩, FrC.rf⟩) (fun v μ' hp => ?_)
  obtain ⟨hb2, rfl, hm9⟩ := hp
  replace hm9 := hm9.symm
  subst hm9
  refine aw_st (st' := []) rfl ?_
  refine aw_iload_n C dX4_tune_14 rfl ?_
  refine aw_bipush C (v := (-8)) (by decide) dX4_tune_15 ?_
  refine aw_bipush C (v := 8) (by decide) dX4_tune_17 ?_
  refine ax_callS (n := 3) C hE hQ hnt (k_X4_needBetween (x := z) (lo := (-8)) (hi := 8) hl9 B) gX4_tune_X4_needBetween rfl ⟨rfl, rfl⟩ (by decide +kernel) ⟨by decide, by decide⟩ rfl rfl (Nat.le_of_ble_eq_true rfl) dX4_tune_19 ⟨by decide, by decide⟩ ⟨by decide, by decide⟩ (fun E9 μ9 hp => by obtain ⟨rfl, hn, rfl⟩ := hp; exact ⟨⟨by simp [tuC, hb1, hb2, hn], by simp [tuC, hb1, hb2, hn]⟩, ⟨_, _, hR⟩, FrC.rf⟩) (fun v μ' hp => ?_)
  obtain ⟨hb3, rfl, hm9⟩ := hp
  replace hm9 := hm9.symm
  subst hm9
  refine aw_st (st' := []) rfl ?_
  refine aw_aload C dX4_tune_22 rfl ?_
  refine aw_get C f99 (hR.ar hj6) rfl dX4_tune_24 ?_
  refine aw_istore C dX4_tune_27 (by decide) ?_
  refine aw_aload C dX4_tune_29 rfl ?_
  refine aw_iload_n C dX4_tune_31 rfl ?_
  refine aw_putE C f99 ftX0 (ty := .int) (by decide +kernel) rfl rfl (hR.ar hj6) (Nat.le_of_ble_eq_true rfl) (fs' := [.int (S.A j 0), .int (S.A j 1), .int y, .int (S.A j 3), .float (S.cr j), .int (S.A j 5), .int (S.A j 6), .int (S.A j 7), .int (S.A j 8), .int (S.A j 9), .int (S.A j 10), .int (S.A j 11)]) rfl dX4_tune_32 ?_
  refine aw_aload C dX4_tune_35 rfl ?_
  refine aw_iload_n C dX4_tune_37 rfl ?_
  refine aw_putE C f102 ftX0 (ty := .int) (by decide +kernel) rfl rfl mp_s (Nat.le_of_ble_eq_true rfl) (fs' := [.int (S.A j 0), .int (S.A j 1), .int y, .int z, .float (S.cr j), .int (S.A j 5), .int (S.A j 6), .int (S.A j 7), .int (S.A j 8), .int (S.A j 9), .int (S.A j 10), .int (S.A j 11)]) rfl dX4_tune_38 ?_
  refine aw_mu mp_mp ?_
  refine aw_iload C dX4_tune_41 rfl ?_
  refine aw_iret C hQe ?_ (by omega) (by omega) dX4_tune_43
  have e6 : ix (nI j) = j := ix_nI hj6 (by decide)
  rw [e6]
  exact ⟨by simp [tuC, hb1, hb2, hb3], rfl, ⟨_, _, hR.setA hj6 _⟩, (FrC.rf.mp (v5 (by decide) hj6))⟩
set_option maxRecDepth 100000 in
set_option maxHeartbeats 4000000 in
theorem k_X4_string (hl9 : l.stackTraces = false) (B : Base s0) {μ : mu} {L : Nat → Nat → Nat} {S : SS} (h0 : RX g L S μ) (hI : Iv S) {x : Int32} : Cy l yX4_string wsX4_string (rmOf 7 1 6 130) s0 D (tyL g) [.ref (L 0 0), .int x] μ 1 6 (fun v μ' => stC S x = 0 ∧ v = some (.double (FP.f2d (S.cr (ix x)))) ∧ RX g L (stS S (ix x)) μ' ∧ FrC L μ μ') (fun E μ' => px9 [IOB] (stC S x) E ∧ RX g L S μ' ∧ FrC L μ μ') := by
  refine Cy.of (cc := cX4_string) (own := RX4) (maxL := 5) (ret := (some .double)) (by decide) rfl rfl (Nat.le_of_ble_eq_true rfl) ?_
  intro p e s m args below meth c Q C hE hnt hQ hQe
  obtain ⟨fh, fv, hR⟩ := h0
  have in_RX0 : ∀ w ∈ u_ws RX0 TX0 12, w ∈ wsX4_string := by decide +kernel
  have f105 : FL wsX4_string RX4 105 2 "ArrowField$Archer" RX0 TX0 12 4 := ⟨in_RX0, rfl, by decide, by decide +kernel, Or.inl rfl⟩
  refine aw_aload_n C dX4_string_0 rfl ?_
  refine aw_iload_n C dX4_string_1 rfl ?_
  refine ax_callV (n := 1) C hE hQ hnt (ci := 6) (q := (RX4, TX4, 16)) (k_X4_archerNumbered (x := x) hl9 B ⟨_, _, hR⟩ hI) gX4_string_X4_archerNumbered rfl ⟨rfl, rfl⟩ (by decide +kernel) ⟨by decide, by decide⟩ rfl rfl hR.mn rfl (Nat.le_of_ble_eq_true rfl) dX4_string_2 ⟨by decide, by decide⟩ ⟨by decide, by decide⟩ (fun E9 μ9 hp => by obtain ⟨rfl, hn, rfl⟩ := hp; exact ⟨⟨by simp [stC, hn], by simp [stC, hn]⟩, ⟨_, _, hR⟩, FrC.rf⟩) (fun v μ' hp => ?_)
  obtain ⟨hb1, ⟨j, hj, rfl, rfl⟩, hm9⟩ := hp
  replace hm9 := hm9.symm
  subst hm9
  refine aw_st (st' := [.ref (L 5 j)]) rfl ?_
  have hj6 : j < 6 := Nat.lt_of_lt_of_le hj hI.A6
  refine aw_astore_n C dX4_string_5 (by decide) ?_
  refine aw_aload_n C dX4_string_6 rfl ?_
  refine aw_get C f105 (hR.ar hj6) rfl dX4_string_7 ?_
  refine aw_f2d C (crf_n (hI.2.2.2.1 j hj).2.1) dX4_string_10 ?_
  refine aw_dstore_n C dX4_string_11 (by decide) ?_
  refine aw_aload_n C dX4_string_12 rfl ?_
  refine aw_fconst0 C dX4_string_13 ?_
  refine aw_putE C f105 ftX0 (ty := .float) (by decide +kernel) rfl rfl (hR.ar hj6) (Nat.le_of_ble_eq_true rfl) (fs' := [.int (S.A j 0), .int (S.A j 1), .int (S.A j 2), .int (S.A j 3), .float FP.fconst0, .int (S.A j 5), .int (S.A j 6), .int (S.A j 7), .int (S.A j 8), .int (S.A j 9), .int (S.A j 10), .int (S.A j 11)]) rfl dX4_string_14 ?_
  refine aw_dload_n C dX4_string_17 rfl ?_
  refine aw_dret C hQe ?_ (by omega) (by omega) dX4_string_18
  have e6 : ix (nI j) = j := ix_nI hj6 (by decide)
  rw [e6]
  exact ⟨by simp [stC, hb1], rfl, ⟨_, _, hR.setCr hj6 _⟩, (FrC.rf.mp (v5 (by decide) hj6))⟩
set_option maxRecDepth 100000 in
set_option maxHeartbeats 4000000 in
theorem k_X4_wind (hl9 : l.stackTraces = false) (B : Base s0) {μ : mu} {L : Nat → Nat → Nat} {S : SS} (h0 : RX g L S μ) (hI : Iv S) {y : Int32} : Cy l yX4_wind wsX4_wind (rmOf 7 1 6 130) s0 D (tyL g) [.ref (L 0 0), .int y] μ 1 6 (fun v μ' => wiC y = 0 ∧ v = some (.int (S.c 5)) ∧ RX g L (wiS S y) μ' ∧ FrC L μ μ') (fun E μ' => px9 [IAE] (wiC y) E ∧ RX g L S μ' ∧ FrC L μ μ') := by
  refine Cy.of (cc := cX4_wind) (own := RX4) (maxL := 3) (ret := (some .int)) (by decide) rfl rfl (Nat.le_of_ble_eq_true rfl) ?_
  intro p e s m args below meth c Q C hE hnt hQ hQe
  obtain ⟨fh, fv, hR⟩ := h0
  have in_RX4 : ∀ w ∈ u_ws RX4 TX4 16, w ∈ wsX4_wind := by decide +kernel
  have f115 : FL wsX4_wind RX4 115 6 "ArrowField" RX4 TX4 16 5 := ⟨in_RX4, rfl, by decide, by decide +kernel, Or.inl rfl⟩
  refine aw_iload_n C dX4_wind_0 rfl ?_
  refine aw_bipush C (v := (-16)) (by decide) dX4_wind_1 ?_
  refine aw_bipush C (v := 16) (by decide) dX4_wind_3 ?_
  refine ax_callS (n := 3) C hE hQ hnt (k_X4_needBetween (x := y) (lo := (-16)) (hi := 16) hl9 B) gX4_wind_X4_needBetween rfl ⟨rfl, rfl⟩ (by decide +kernel) ⟨by decide, by decide⟩ rfl rfl (Nat.le_of_ble_eq_true rfl) dX4_wind_5 ⟨by decide, by decide⟩ ⟨by decide, by decide⟩ (fun E9 μ9 hp => by obtain ⟨rfl, hn, rfl⟩ := hp; exact ⟨⟨by simp [wiC, hn], by simp [wiC, hn]⟩, ⟨_, _, hR⟩, FrC.rf⟩) (fun v μ' hp => ?_)
  obtain ⟨hb1, rfl, hm9⟩ := hp
  replace hm9 := hm9.symm
  subst hm9
  refine aw_st (st' := []) rfl ?_
  refine aw_aload_n C dX4_wind_8 rfl ?_
  refine aw_get C f115 hR.mn rfl dX4_wind_9 ?_
  refine aw_istore_n C dX4_wind_12 (by decide) ?_
  refine aw_aload_n C dX4_wind_13 rfl ?_
  refine aw_iload_n C dX4_wind_14 rfl ?_
  refine aw_putE C f115 ftX4 (ty := .int) (by decide +kernel) rfl rfl hR.mn (Nat.le_of_ble_eq_true rfl) (fs' := [.ref (L 1 0), .ref (L 2 0), .int (S.c 2), .int (S.c 3), .int (S.c 4), .int y, .int (S.c 6), .int (S.c 7), .int (S.c 8), .int (S.c 9), .int (S.c 10), .int (S.c 11), .ref (L 3 0), .int (S.c 13), .int (S.c 14), .ref (L 4 0)]) rfl dX4_wind_15 ?_
  refine aw_iload_n C dX4_wind_18 rfl ?_
  refine aw_iret C hQe ?_ (by omega) (by omega) dX4_wind_19
  exact ⟨by simp [wiC, hb1], rfl, ⟨_, _, hR.setMn _⟩, (FrC.rf.mp (v0 (by decide)))⟩
set_option maxRecDepth 100000 in
set_option maxHeartbeats 4000000 in
theorem k_X4_horn (hl9 : l.stackTraces = false) (B : Base s0) {μ : mu} {L : Nat → Nat → Nat} {S : SS} (h0 : RX g L S μ) (hI : Iv S)  : Cy l yX4_horn wsX4_horn (rmOf 7 0 0 130) s0 D (tyL g) [.ref (L 0 0)] μ 0 0 (fun v μ' => (0 : Nat) = 0 ∧ v = some (.int (S.c 11 + 1)) ∧ RX g L (hoS S) μ' ∧ FrC L μ μ') (fun E μ' => px9 [] (0 : Nat) E ∧ RX g L S μ' ∧ FrC L μ μ') := by
  refine Cy.of (cc := cX4_horn) (own := RX4) (maxL := 1) (ret := (some .int)) (by decide) rfl rfl (Nat.le_of_ble_eq_true rfl) ?_
  intro p e s m args below meth c Q C hE hnt hQ hQe
  obtain ⟨fh, fv, hR⟩ := h0
  have in_RX4 : ∀ w ∈ u_ws RX4 TX4 16, w ∈ wsX4_horn := by decide +kernel
  have f198 : FL wsX4_horn RX4 198 6 "ArrowField" RX4 TX4 16 11 := ⟨in_RX4, rfl, by decide, by decide +kernel, Or.inl rfl⟩
  refine aw_aload_n C dX4_horn_0 rfl ?_
  refine aw_dup C rfl dX4_horn_1 ?_
  refine aw_get C f198 hR.mn rfl dX4_horn_2 ?_
  refine aw_iconst C (v := 1) (by decide) dX4_horn_5 ?_
  refine aw_iadd C dX4_horn_6 ?_
  refine aw_putE C f198 ftX4 (ty := .int) (by decide +kernel) rfl rfl hR.mn (Nat.le_of_ble_eq_true rfl) (fs' := [.ref (L 1 0), .ref (L 2 0), .int (S.c 2), .int (S.c 3), .int (S.c 4), .int (S.c 5), .int (S.c 6), .int (S.c 7), .int (S.c 8), .int (S.c 9), .int (S.c 10), .int ((S.c 11) + 1), .ref (L 3 0), .int (S.c 13), .int (S.c 14), .ref (L 4 0)]) rfl dX4_horn_7 ?_
  refine aw_aload_n C dX4_horn_10 rfl ?_
  refine aw_get C f198 mp_s rfl dX4_horn_11 ?_
  refine aw_iret C hQe ?_ (by omega) (by omega) dX4_horn_14
  exact ⟨rfl, rfl, ⟨_, _, hR.setMn _⟩, (FrC.rf.mp (v0 (by decide)))⟩
set_option maxRecDepth 100000 in
set_option maxHeartbeats 4000000 in
theorem k_X4_close (hl9 : l.stackTraces = false) (B : Base s0) {μ : mu} {L : Nat → Nat → Nat} {S : SS} (h0 : RX g L S μ) (hI : Iv S) {b : Int32} (hb : b = 0 ∨ b = 1) : Cy l yX4_close wsX4_close (rmOf 7 0 0 130) s0 D (tyL g) [.ref (L 0 0), .int b] μ 0 0 (fun v μ' => (0 : Nat) = 0 ∧ v = some (.int (S.c 7)) ∧ RX g L (clS S b) μ' ∧ FrC L μ μ') (fun E μ' => px9 [] (0 : Nat) E ∧ RX g L S μ' ∧ FrC L μ μ') := by
  refine Cy.of (cc := cX4_close) (own := RX4) (maxL := 3) (ret := (some .boolean)) (by decide) rfl rfl (Nat.le_of_ble_eq_true rfl) ?_
  intro p e s m args below meth c Q C hE hnt hQ hQe
  obtain ⟨fh, fv, hR⟩ := h0
  have in_RX4 : ∀ w ∈ u_ws RX4 TX4 16, w ∈ wsX4_close := by decide +kernel
  have f121 : FL wsX4_close RX4 121 6 "ArrowField" RX4 TX4 16 7 := ⟨in_RX4, rfl, by decide, by decide +kernel, Or.inl rfl⟩
  refine aw_aload_n C dX4_close_0 rfl ?_
  refine aw_get C f121 hR.mn rfl dX4_close_1 ?_
  refine aw_istore_n C dX4_close_4 (by decide) ?_
  refine aw_aload_n C dX4_close_5 rfl ?_
  refine aw_iload_n C dX4_close_6 rfl ?_
  refine aw_putE C f121 ftX4 (ty := .boolean) (by decide +kernel) (b01 hb) (b01_fits hb) hR.mn (Nat.le_of_ble_eq_true rfl) (fs' := [.ref (L 1 0), .ref (L 2 0), .int (S.c 2), .int (S.c 3), .int (S.c 4), .int (S.c 5), .int (S.c 6), .int b, .int (S.c 8), .int (S.c 9), .int (S.c 10), .int (S.c 11), .ref (L 3 0), .int (S.c 13), .int (S.c 14), .ref (L 4 0)]) rfl dX4_close_7 ?_
  refine aw_iload_n C dX4_close_10 rfl ?_
  refine aw_zret C hQe (b01 hI.2.2.1) ?_ (by omega) (by omega) dX4_close_11
  exact ⟨rfl, rfl, ⟨_, _, hR.setMn _⟩, (FrC.rf.mp (v0 (by decide)))⟩
set_option maxRecDepth 100000 in
set_option maxHeartbeats 4000000 in
theorem k_X4_breakOff (hl9 : l.stackTraces = false) (B : Base s0) {μ : mu} {L : Nat → Nat → Nat} {S : SS} (h0 : RX g L S μ) (hI : Iv S)  : Cy l yX4_breakOff wsX4_breakOff (rmOf 7 1 6 130) s0 D (tyL g) [.ref (L 0 0)] μ 1 6 (fun v μ' => brC S = 0 ∧ v = some (.int (S.t 3 * 10 + S.t 4)) ∧ RX g L (brS S) μ' ∧ FrC L μ μ') (fun E μ' => px9 [ISE] (brC S) E ∧ RX g L S μ' ∧ FrC L μ μ') := by
  refine Cy.of (cc := cX4_breakOff) (own := RX4) (maxL := 1) (ret := (some .int)) (by decide) rfl rfl (Nat.le_of_ble_eq_true rfl) ?_
  intro p e s m args below meth c Q C hE hnt hQ hQe
  obtain ⟨fh, fv, hR⟩ := h0
  have in_RX4 : ∀ w ∈ u_ws RX4 TX4 16, w ∈ wsX4_breakOff := by decide +kernel
  have in_RX2 : ∀ w ∈ u_ws RX2 TX2 10, w ∈ wsX4_breakOff := by decide +kernel
  have f31 : FL wsX4_breakOff RX4 31 6 "ArrowField" RX4 TX4 16 12 := ⟨in_RX4, rfl, by decide, by decide +kernel, Or.inl rfl⟩
  have f86 : FL wsX4_breakOff RX4 86 4 "ArrowField$Match" RX2 TX2 10 0 := ⟨in_RX2, rfl, by decide, by decide +kernel, Or.inl rfl⟩
  have f192 : FL wsX4_breakOff RX4 192 4 "ArrowField$Match" RX2 TX2 10 3 := ⟨in_RX2, rfl, by decide, by decide +kernel, Or.inl rfl⟩
  have f195 : FL wsX4_breakOff RX4 195 4 "ArrowField$Match" RX2 TX2 10 4 := ⟨in_RX2, rfl, by decide, by decide +kernel, Or.inl rfl⟩
  refine aw_aload_n C dX4_breakOff_0 rfl ?_
  refine aw_get C f31 hR.mn rfl dX4_breakOff_1 ?_
  refine aw_get C f86 hR.mt rfl dX4_breakOff_4 ?_
  refine aw_if_ne C (tgt := 20) dX4_breakOff_7 (by decide) (fun c_7 => ?_) (fun c_7 => ?_)
  · refine aw_aload_n C dX4_breakOff_20 rfl ?_
    refine aw_get C f31 hR.mn rfl dX4_breakOff_21 ?_
    refine aw_iconst C (v := 0) (by decide) dX4_breakOff_24 ?_
    refine aw_putE C f86 ftX2 (ty := .boolean) (by decide +kernel) rfl rfl hR.mt (Nat.le_of_ble_eq_true rfl) (fs' := [.int 0, .int (S.t 1), .int (S.t 2), .int (S.t 3), .int (S.t 4), .int (S.t 5), .int (S.t 6), .int (S.t 7), .int (S.t 8), .double S.la]) rfl dX4_breakOff_25 ?_
    refine aw_aload_n C dX4_breakOff_28 rfl ?_
    refine aw_get C f31 (mp_k hR.mn (hR.li.ne (v0 (by decide)) (v0 (by decide)) (Or.inl (by decide)))) rfl dX4_breakOff_29 ?_
    refine aw_get C f192 mp_s rfl dX4_breakOff_32 ?_
    refine aw_bipush C (v := 10) (by decide) dX4_breakOff_35 ?_
    refine aw_imul C dX4_breakOff_37 ?_
    refine aw_aload_n C dX4_breakOff_38 rfl ?_
    refine aw_get C f31 (mp_k hR.mn (hR.li.ne (v0 (by decide)) (v0 (by decide)) (Or.inl (by decide)))) rfl dX4_breakOff_39 ?_
    refine aw_get C f195 mp_s rfl dX4_breakOff_42 ?_
    refine aw_iadd C dX4_breakOff_45 ?_
    refine aw_iret C hQe ?_ (by omega) (by omega) dX4_breakOff_46
    exact ⟨by simp [brC, c_7], rfl, ⟨_, _, hR.setT _⟩, (FrC.rf.mp (v0 (by decide)))⟩
  · refine aw_throw C hE hQ hnt hl9 B.tz (cls := ISE) (text := "no match is on") (ik := 54) (is := 190) (ic := 58) (by decide) (by decide +kernel) (by decide +kernel) B.str190 (by decide +kernel) xb58 B.xIS xo58 dX4_breakOff_10 dX4_breakOff_13 dX4_breakOff_14 dX4_breakOff_16 dX4_breakOff_19 (by decide) (by decide) (by decide) (by decide) (by decide) (by decide) ?_
    exact ⟨⟨by simp [brC, c_7], by simp [brC, c_7]⟩, ⟨_, _, hR⟩, FrC.rf⟩
set_option maxRecDepth 100000 in
set_option maxHeartbeats 4000000 in
theorem k_X4_field (hl9 : l.stackTraces = false) (B : Base s0) {μ : mu} {L : Nat → Nat → Nat} {S : SS} (h0 : RX g L S μ) (hI : Iv S) {x y z : Int32} : Cy l yX4_field wsX4_field (rmOf 7 4 24 130) s0 D (tyL g) [.ref (L 0 0), .int x, .int y, .int z] μ 4 24 (fun v μ' => fiC S x y z = 0 ∧ v = some (.int (S.c 4)) ∧ RX g L (fiS S x y z) μ' ∧ FrC L μ μ') (fun E μ' => px9 [IAE, ISE] (fiC S x y z) E ∧ RX g L S μ' ∧ FrC L μ μ') := by
  refine Cy.of (cc := cX4_field) (own := RX4) (maxL := 5) (ret := (some .int)) (by decide) rfl rfl (Nat.le_of_ble_eq_true rfl) ?_
  intro p e s m args below meth c Q C hE hnt hQ hQe
  obtain ⟨fh, fv, hR⟩ := h0
  have in_RX4 : ∀ w ∈ u_ws RX4 TX4 16, w ∈ wsX4_field := by decide +kernel
  have f21 : FL wsX4_field RX4 21 6 "ArrowField" RX4 TX4 16 4 := ⟨in_RX4, rfl, by decide, by decide +kernel, Or.inl rfl⟩
  have f115 : FL wsX4_field RX4 115 6 "ArrowField" RX4 TX4 16 5 := ⟨in_RX4, rfl, by decide, by decide +kernel, Or.inl rfl⟩
  have f25 : FL wsX4_field RX4 25 6 "ArrowField" RX4 TX4 16 6 := ⟨in_RX4, rfl, by decide, by decide +kernel, Or.inl rfl⟩
  refine aw_iload_n C dX4_field_0 rfl ?_
  refine aw_bipush C (v := 10) (by decide) dX4_field_1 ?_
  refine aw_bipush C (v := 90) (by decide) dX4_field_3 ?_
  refine ax_callS (n := 3) C hE hQ hnt (k_X4_needBetween (x := x) (lo := 10) (hi := 90) hl9 B) gX4_field_X4_needBetween rfl ⟨rfl, rfl⟩ (by decide +kernel) ⟨by decide, by decide⟩ rfl rfl (Nat.le_of_ble_eq_true rfl) dX4_field_5 ⟨by decide, by decide⟩ ⟨by decide, by decide⟩ (fun E9 μ9 hp => by obtain ⟨rfl, hn, rfl⟩ := hp; exact ⟨⟨by simp [fiC, hn], by simp [fiC, hn]⟩, ⟨_, _, hR⟩, FrC.rf⟩) (fun v μ' hp => ?_)
  obtain ⟨hb1, rfl, hm9⟩ := hp
  replace hm9 := hm9.symm
  subst hm9
  refine aw_st (st' := []) rfl ?_
  refine aw_iload_n C dX4_field_8 rfl ?_
  refine aw_bipush C (v := (-16)) (by decide) dX4_field_9 ?_
  refine aw_bipush C (v := 16) (by decide) dX4_field_11 ?_
  refine ax_callS (n := 3) C hE hQ hnt (k_X4_needBetween (x := y) (lo := (-16)) (hi := 16) hl9 B) gX4_field_X4_needBetween rfl ⟨rfl, rfl⟩ (by decide +kernel) ⟨by decide, by decide⟩ rfl rfl (Nat.le_of_ble_eq_true rfl) dX4_field_13 ⟨by decide, by decide⟩ ⟨by decide, by decide⟩ (fun E9 μ9 hp => by obtain ⟨rfl, hn, rfl⟩ := hp; exact ⟨⟨by simp [fiC, hb1, hn], by simp [fiC, hb1, hn]⟩, ⟨_, _, hR⟩, FrC.rf⟩) (fun v μ' hp => ?_)
  obtain ⟨hb2, rfl, hm9⟩ := hp
  replace hm9 := hm9.symm
  subst hm9
  refine aw_st (st' := []) rfl ?_
  refine aw_iload_n C dX4_field_16 rfl ?_
  refine aw_iconst C (v := 1) (by decide) dX4_field_17 ?_
  refine aw_bipush C (v := 8) (by decide) dX4_field_18 ?_
  refine ax_callS (n := 3) C hE hQ hnt (k_X4_needBetween (x := z) (lo := 1) (hi := 8) hl9 B) gX4_field_X4_needBetween rfl ⟨rfl, rfl⟩ (by decide +kernel) ⟨by decide, by decide⟩ rfl rfl (Nat.le_of_ble_eq_true rfl) dX4_field_20 ⟨by decide, by decide⟩ ⟨by decide, by decide⟩ (fun E9 μ9 hp => by obtain ⟨rfl, hn, rfl⟩ := hp; exact ⟨⟨by simp [fiC, hb1, hb2, hn], by simp [fiC, hb1, hb2, hn]⟩, ⟨_, _, hR⟩, FrC.rf⟩) (fun v μ' hp => ?_)
  obtain ⟨hb3, rfl, hm9⟩ := hp
  replace hm9 := hm9.symm
  subst hm9
  refine aw_st (st' := []) rfl ?_
  refine aw_aload_n C dX4_field_23 rfl ?_
  refine aw_callV (n := 0) C hE (ci := 6) (q := (RX4, TX4, 16)) (k_X4_stuckArrows B ⟨_, _, hR⟩ hI) gX4_field_X4_stuckArrows rfl ⟨rfl, rfl⟩ (by decide +kernel) ⟨by decide, by decide⟩ rfl rfl hR.mn rfl (Nat.le_of_ble_eq_true rfl) dX4_field_24 ⟨by decide, by decide⟩ (fun v μ' hp => ?_)
  obtain ⟨rfl, hm9⟩ := hp
  replace hm9 := hm9.symm
  subst hm9
  refine aw_st (st' := [.int (skF S)]) rfl ?_
  refine aw_if_le C (tgt := 40) dX4_field_27 (by decide) (fun c_27 => ?_) (fun c_27 => ?_)
  · refine aw_aload_n C dX4_field_40 rfl ?_
    refine aw_get C f21 hR.mn rfl dX4_field_41 ?_
    refine aw_istore C dX4_field_44 (by decide) ?_
    refine aw_aload_n C dX4_field_46 rfl ?_
    refine aw_iload_n C dX4_field_47 rfl ?_
    refine aw_putE C f21 ftX4 (ty := .int) (by decide +kernel) rfl rfl hR.mn (Nat.le_of_ble_eq_true rfl) (fs' := [.ref (L 1 0), .ref (L 2 0), .int (S.c 2), .int (S.c 3), .int x, .int (S.c 5), .int (S.c 6), .int (S.c 7), .int (S.c 8), .int (S.c 9), .int (S.c 10), .int (S.c 11), .ref (L 3 0), .int (S.c 13), .int (S.c 14), .ref (L 4 0)]) rfl dX4_field_48 ?_
    refine aw_aload_n C dX4_field_51 rfl ?_
    refine aw_iload_n C dX4_field_52 rfl ?_
    refine aw_putE C f115 ftX4 (ty := .int) (by decide +kernel) rfl rfl mp_s (Nat.le_of_ble_eq_true rfl) (fs' := [.ref (L 1 0), .ref (L 2 0), .int (S.c 2), .int (S.c 3), .int x, .int y, .int (S.c 6), .int (S.c 7), .int (S.c 8), .int (S.c 9), .int (S.c 10), .int (S.c 11), .ref (L 3 0), .int (S.c 13), .int (S.c 14), .ref (L 4 0)]) rfl dX4_field_53 ?_
    refine aw_mu mp_mp ?_
    refine aw_aload_n C dX4_field_56 rfl ?_
    refine aw_iload_n C dX4_field_57 rfl ?_
    refine aw_putE C f25 ftX4 (ty := .int) (by decide +kernel) rfl rfl mp_s (Nat.le_of_ble_eq_true rfl) (fs' := [.ref (L 1 0), .ref (L 2 0), .int (S.c 2), .int (S.c 3), .int x, .int y, .int z, .int (S.c 7), .int (S.c 8), .int (S.c 9), .int (S.c 10), .int (S.c 11), .ref (L 3 0), .int (S.c 13), .int (S.c 14), .ref (L 4 0)]) rfl dX4_field_58 ?_
    refine aw_mu mp_mp ?_
    refine aw_iload C dX4_field_61 rfl ?_
    refine aw_iret C hQe ?_ (by omega) (by omega) dX4_field_63
    exact ⟨by simp [fiC, hb1, hb2, hb3, c_27], rfl, ⟨_, _, hR.setMn _⟩, (FrC.rf.mp (v0 (by decide)))⟩
  · refine aw_throw C hE hQ hnt hl9 B.tz (cls := ISE) (text := "an arrow is stuck") (ik := 54) (is := 113) (ic := 58) (by decide) (by decide +kernel) (by decide +kernel) B.str113 (by decide +kernel) xb58 B.xIS xo58 dX4_field_30 dX4_field_33 dX4_field_34 dX4_field_36 dX4_field_39 (by decide) (by decide) (by decide) (by decide) (by decide) (by decide) ?_
    exact ⟨⟨by simp [fiC, hb1, hb2, hb3, c_27], by simp [fiC, hb1, hb2, hb3, c_27]⟩, ⟨_, _, hR⟩, FrC.rf⟩
end KM
