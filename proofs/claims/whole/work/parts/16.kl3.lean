/-! ===== ArrowField: what is asked ===== -/
section KN
variable {l : Launch} {s0 : State} {D : va_G} {g : Nat → ClassId}
set_option maxRecDepth 100000 in
set_option maxHeartbeats 4000000 in
theorem k_X4_ofArcher (hl9 : l.stackTraces = false) (B : Base s0) {μ : mu} {L : Nat → Nat → Nat} {S : SS} (h0 : RX g L S μ) (hI : Iv S) {x w : Int32} : Cy l yX4_ofArcher wsX4_ofArcher (rmOf 7 2 12 130) s0 D (tyL g) [.ref (L 0 0), .int x, .int w] μ 2 12 (fun v μ' => oaC S x w = 0 ∧ v = some (.int (oaF S (ix x) (ix w))) ∧ RX g L S μ' ∧ FrC L μ μ') (fun E μ' => px9 [IOB, IAE] (oaC S x w) E ∧ RX g L S μ' ∧ FrC L μ μ') := by
  refine Cy.of (cc := cX4_ofArcher) (own := RX4) (maxL := 4) (ret := (some .int)) (by decide) rfl rfl (Nat.le_of_ble_eq_true rfl) ?_
  intro p e s m args below meth c Q C hE hnt hQ hQe
  obtain ⟨fh, fv, hR⟩ := h0
  have in_RX0 : ∀ w ∈ u_ws RX0 TX0 12, w ∈ wsX4_ofArcher := by decide +kernel
  have f61 : FL wsX4_ofArcher RX4 61 2 "ArrowField$Archer" RX0 TX0 12 0 := ⟨in_RX0, rfl, by decide, by decide +kernel, Or.inl rfl⟩
  have f64 : FL wsX4_ofArcher RX4 64 2 "ArrowField$Archer" RX0 TX0 12 1 := ⟨in_RX0, rfl, by decide, by decide +kernel, Or.inl rfl⟩
  have f99 : FL wsX4_ofArcher RX4 99 2 "ArrowField$Archer" RX0 TX0 12 2 := ⟨in_RX0, rfl, by decide, by decide +kernel, Or.inl rfl⟩
  have f102 : FL wsX4_ofArcher RX4 102 2 "ArrowField$Archer" RX0 TX0 12 3 := ⟨in_RX0, rfl, by decide, by decide +kernel, Or.inl rfl⟩
  have f96 : FL wsX4_ofArcher RX4 96 2 "ArrowField$Archer" RX0 TX0 12 5 := ⟨in_RX0, rfl, by decide, by decide +kernel, Or.inl rfl⟩
  have f201 : FL wsX4_ofArcher RX4 201 2 "ArrowField$Archer" RX0 TX0 12 6 := ⟨in_RX0, rfl, by decide, by decide +kernel, Or.inl rfl⟩
  have f204 : FL wsX4_ofArcher RX4 204 2 "ArrowField$Archer" RX0 TX0 12 7 := ⟨in_RX0, rfl, by decide, by decide +kernel, Or.inl rfl⟩
  have f207 : FL wsX4_ofArcher RX4 207 2 "ArrowField$Archer" RX0 TX0 12 8 := ⟨in_RX0, rfl, by decide, by decide +kernel, Or.inl rfl⟩
  have f210 : FL wsX4_ofArcher RX4 210 2 "ArrowField$Archer" RX0 TX0 12 9 := ⟨in_RX0, rfl, by decide, by decide +kernel, Or.inl rfl⟩
  have f213 : FL wsX4_ofArcher RX4 213 2 "ArrowField$Archer" RX0 TX0 12 10 := ⟨in_RX0, rfl, by decide, by decide +kernel, Or.inl rfl⟩
  have f216 : FL wsX4_ofArcher RX4 216 2 "ArrowField$Archer" RX0 TX0 12 11 := ⟨in_RX0, rfl, by decide, by decide +kernel, Or.inl rfl⟩
  refine aw_aload_n C dX4_ofArcher_0 rfl ?_
  refine aw_iload_n C dX4_ofArcher_1 rfl ?_
  refine ax_callV (n := 1) C hE hQ hnt (ci := 6) (q := (RX4, TX4, 16)) (k_X4_archerNumbered (x := x) hl9 B ⟨_, _, hR⟩ hI) gX4_ofArcher_X4_archerNumbered rfl ⟨rfl, rfl⟩ (by decide +kernel) ⟨by decide, by decide⟩ rfl rfl hR.mn rfl (Nat.le_of_ble_eq_true rfl) dX4_ofArcher_2 ⟨by decide, by decide⟩ ⟨by decide, by decide⟩ (fun E9 μ9 hp => by obtain ⟨rfl, hn, rfl⟩ := hp; exact ⟨⟨by simp [oaC, hn], by simp [oaC, hn]⟩, ⟨_, _, hR⟩, FrC.rf⟩) (fun v μ' hp => ?_)
  obtain ⟨hb1, ⟨j, hj, rfl, rfl⟩, hm9⟩ := hp
  replace hm9 := hm9.symm
  subst hm9
  refine aw_st (st' := [.ref (L 5 j)]) rfl ?_
  have hj6 : j < 6 := Nat.lt_of_lt_of_le hj hI.A6
  refine aw_astore_n C dX4_ofArcher_5 (by decide) ?_
  refine aw_iload_n C dX4_ofArcher_6 rfl ?_
  refine aw_iconst C (v := 0) (by decide) dX4_ofArcher_7 ?_
  refine aw_bipush C (v := 10) (by decide) dX4_ofArcher_8 ?_
  refine ax_callS (n := 3) C hE hQ hnt (k_X4_needBetween (x := w) (lo := 0) (hi := 10) hl9 B) gX4_ofArcher_X4_needBetween rfl ⟨rfl, rfl⟩ (by decide +kernel) ⟨by decide, by decide⟩ rfl rfl (Nat.le_of_ble_eq_true rfl) dX4_ofArcher_10 ⟨by decide, by decide⟩ ⟨by decide, by decide⟩ (fun E9 μ9 hp => by obtain ⟨rfl, hn, rfl⟩ := hp; exact ⟨⟨by simp [oaC, hb1, hn], by simp [oaC, hb1, hn]⟩, ⟨_, _, hR⟩, FrC.rf⟩) (fun v μ' hp => ?_)
  obtain ⟨hb2, rfl, hm9⟩ := hp
  replace hm9 := hm9.symm
  subst hm9
  refine aw_st (st' := []) rfl ?_
  obtain ⟨k, hk, rfl⟩ := btw0 (n := 10) hb2 (by decide)
  refine aw_iload_n C dX4_ofArcher_13 rfl ?_
  by_cases q14_0 : k = 0
  · subst q14_0
    refine aw_tableIn C (tgt := 68) (off := 54) dX4_ofArcher_14 (by decide) (by decide) (by decide) (by decide) ?_
    refine aw_aload_n C dX4_ofArcher_68 rfl ?_
    refine aw_get C f61 (hR.ar hj6) rfl dX4_ofArcher_69 ?_
    refine aw_iret C hQe ?_ (by omega) (by omega) dX4_ofArcher_72
    rw [show ix (nI j) = j from ix_nI hj6 (by decide)]
    exact ⟨by simp [oaC, hb1, hb2], rfl, ⟨_, _, hR⟩, FrC.rf⟩
  by_cases q14_1 : k = 1
  · subst q14_1
    refine aw_tableIn C (tgt := 73) (off := 59) dX4_ofArcher_14 (by decide) (by decide) (by decide) (by decide) ?_
    refine aw_aload_n C dX4_ofArcher_73 rfl ?_
    refine aw_get C f64 (hR.ar hj6) rfl dX4_ofArcher_74 ?_
    refine aw_iret C hQe ?_ (by omega) (by omega) dX4_ofArcher_77
    rw [show ix (nI j) = j from ix_nI hj6 (by decide)]
    exact ⟨by simp [oaC, hb1, hb2], rfl, ⟨_, _, hR⟩, FrC.rf⟩
  by_cases q14_2 : k = 2
  · subst q14_2
    refine aw_tableIn C (tgt := 78) (off := 64) dX4_ofArcher_14 (by decide) (by decide) (by decide) (by decide) ?_
    refine aw_aload_n C dX4_ofArcher_78 rfl ?_
    refine aw_get C f99 (hR.ar hj6) rfl dX4_ofArcher_79 ?_
    refine aw_iret C hQe ?_ (by omega) (by omega) dX4_ofArcher_82
    rw [show ix (nI j) = j from ix_nI hj6 (by decide)]
    exact ⟨by simp [oaC, hb1, hb2], rfl, ⟨_, _, hR⟩, FrC.rf⟩
  by_cases q14_3 : k = 3
  · subst q14_3
    refine aw_tableIn C (tgt := 83) (off := 69) dX4_ofArcher_14 (by decide) (by decide) (by decide) (by decide) ?_
    refine aw_aload_n C dX4_ofArcher_83 rfl ?_
    refine aw_get C f102 (hR.ar hj6) rfl dX4_ofArcher_84 ?_
    refine aw_iret C hQe ?_ (by omega) (by omega) dX4_ofArcher_87
    rw [show ix (nI j) = j from ix_nI hj6 (by decide)]
    exact ⟨by simp [oaC, hb1, hb2], rfl, ⟨_, _, hR⟩, FrC.rf⟩
  by_cases q14_4 : k = 4
  · subst q14_4
    refine aw_tableIn C (tgt := 88) (off := 74) dX4_ofArcher_14 (by decide) (by decide) (by decide) (by decide) ?_
    refine aw_aload_n C dX4_ofArcher_88 rfl ?_
    refine aw_get C f96 (hR.ar hj6) rfl dX4_ofArcher_89 ?_
    refine aw_iret C hQe ?_ (by omega) (by omega) dX4_ofArcher_92
    rw [show ix (nI j) = j from ix_nI hj6 (by decide)]
    exact ⟨by simp [oaC, hb1, hb2], rfl, ⟨_, _, hR⟩, FrC.rf⟩
  by_cases q14_5 : k = 5
  · subst q14_5
    refine aw_tableIn C (tgt := 93) (off := 79) dX4_ofArcher_14 (by decide) (by decide) (by decide) (by decide) ?_
    refine aw_aload_n C dX4_ofArcher_93 rfl ?_
    refine aw_get C f201 (hR.ar hj6) rfl dX4_ofArcher_94 ?_
    refine aw_iret C hQe ?_ (by omega) (by omega) dX4_ofArcher_97
    rw [show ix (nI j) = j from ix_nI hj6 (by decide)]
    exact ⟨by simp [oaC, hb1, hb2], rfl, ⟨_, _, hR⟩, FrC.rf⟩
  by_cases q14_6 : k = 6
  · subst q14_6
    refine aw_tableIn C (tgt := 98) (off := 84) dX4_ofArcher_14 (by decide) (by decide) (by decide) (by decide) ?_
    refine aw_aload_n C dX4_ofArcher_98 rfl ?_
    refine aw_get C f204 (hR.ar hj6) rfl dX4_ofArcher_99 ?_
    refine aw_iret C hQe ?_ (by omega) (by omega) dX4_ofArcher_102
    rw [show ix (nI j) = j from ix_nI hj6 (by decide)]
    exact ⟨by simp [oaC, hb1, hb2], rfl, ⟨_, _, hR⟩, FrC.rf⟩
  by_cases q14_7 : k = 7
  · subst q14_7
    refine aw_tableIn C (tgt := 103) (off := 89) dX4_ofArcher_14 (by decide) (by decide) (by decide) (by decide) ?_
    refine aw_aload_n C dX4_ofArcher_103 rfl ?_
    refine aw_get C f207 (hR.ar hj6) rfl dX4_ofArcher_104 ?_
    refine aw_iret C hQe ?_ (by omega) (by omega) dX4_ofArcher_107
    rw [show ix (nI j) = j from ix_nI hj6 (by decide)]
    exact ⟨by simp [oaC, hb1, hb2], rfl, ⟨_, _, hR⟩, FrC.rf⟩
  by_cases q14_8 : k = 8
  · subst q14_8
    refine aw_tableIn C (tgt := 108) (off := 94) dX4_ofArcher_14 (by decide) (by decide) (by decide) (by decide) ?_
    refine aw_aload_n C dX4_ofArcher_108 rfl ?_
    refine aw_get C f210 (hR.ar hj6) rfl dX4_ofArcher_109 ?_
    refine aw_iret C hQe ?_ (by omega) (by omega) dX4_ofArcher_112
    rw [show ix (nI j) = j from ix_nI hj6 (by decide)]
    exact ⟨by simp [oaC, hb1, hb2], rfl, ⟨_, _, hR⟩, FrC.rf⟩
  by_cases q14_9 : k = 9
  · subst q14_9
    refine aw_tableIn C (tgt := 113) (off := 99) dX4_ofArcher_14 (by decide) (by decide) (by decide) (by decide) ?_
    refine aw_aload_n C dX4_ofArcher_113 rfl ?_
    refine aw_get C f213 (hR.ar hj6) rfl dX4_ofArcher_114 ?_
    refine aw_iret C hQe ?_ (by omega) (by omega) dX4_ofArcher_117
    rw [show ix (nI j) = j from ix_nI hj6 (by decide)]
    exact ⟨by simp [oaC, hb1, hb2], rfl, ⟨_, _, hR⟩, FrC.rf⟩
  by_cases q14_10 : k = 10
  · subst q14_10
    refine aw_tableOut C (tgt := 118) dX4_ofArcher_14 (by decide) (by decide) ?_
    refine aw_aload_n C dX4_ofArcher_118 rfl ?_
    refine aw_get C f216 (hR.ar hj6) rfl dX4_ofArcher_119 ?_
    refine aw_iret C hQe ?_ (by omega) (by omega) dX4_ofArcher_122
    rw [show ix (nI j) = j from ix_nI hj6 (by decide)]
    exact ⟨by simp [oaC, hb1, hb2], rfl, ⟨_, _, hR⟩, FrC.rf⟩
  exact absurd hk (by omega)
set_option maxRecDepth 100000 in
set_option maxHeartbeats 4000000 in
theorem k_X4_speed (hl9 : l.stackTraces = false) (B : Base s0) {μ : mu} {L : Nat → Nat → Nat} {S : SS} (h0 : RX g L S μ) (hI : Iv S) {x : Int32} : Cy l yX4_speed wsX4_speed (rmOf 7 1 6 130) s0 D (tyL g) [.ref (L 0 0), .int x] μ 1 6 (fun v μ' => stC S x = 0 ∧ v = some (.double (sdF S (ix x))) ∧ RX g L S μ' ∧ FrC L μ μ') (fun E μ' => px9 [IOB] (stC S x) E ∧ RX g L S μ' ∧ FrC L μ μ') := by
  refine Cy.of (cc := cX4_speed) (own := RX4) (maxL := 3) (ret := (some .double)) (by decide) rfl rfl (Nat.le_of_ble_eq_true rfl) ?_
  intro p e s m args below meth c Q C hE hnt hQ hQe
  obtain ⟨fh, fv, hR⟩ := h0
  have in_RX0 : ∀ w ∈ u_ws RX0 TX0 12, w ∈ wsX4_speed := by decide +kernel
  have in_RX4 : ∀ w ∈ u_ws RX4 TX4 16, w ∈ wsX4_speed := by decide +kernel
  have f96 : FL wsX4_speed RX4 96 2 "ArrowField$Archer" RX0 TX0 12 5 := ⟨in_RX0, rfl, by decide, by decide +kernel, Or.inl rfl⟩
  have f17 : FL wsX4_speed RX4 17 6 "ArrowField" RX4 TX4 16 1 := ⟨in_RX4, rfl, by decide, by decide +kernel, Or.inl rfl⟩
  refine aw_aload_n C dX4_speed_0 rfl ?_
  refine aw_iload_n C dX4_speed_1 rfl ?_
  refine ax_callV (n := 1) C hE hQ hnt (ci := 6) (q := (RX4, TX4, 16)) (k_X4_archerNumbered (x := x) hl9 B ⟨_, _, hR⟩ hI) gX4_speed_X4_archerNumbered rfl ⟨rfl, rfl⟩ (by decide +kernel) ⟨by decide, by decide⟩ rfl rfl hR.mn rfl (Nat.le_of_ble_eq_true rfl) dX4_speed_2 ⟨by decide, by decide⟩ ⟨by decide, by decide⟩ (fun E9 μ9 hp => by obtain ⟨rfl, hn, rfl⟩ := hp; exact ⟨⟨by simp [stC, hn], by simp [stC, hn]⟩, ⟨_, _, hR⟩, FrC.rf⟩) (fun v μ' hp => ?_)
  obtain ⟨hb1, ⟨j, hj, rfl, rfl⟩, hm9⟩ := hp
  replace hm9 := hm9.symm
  subst hm9
  refine aw_st (st' := [.ref (L 5 j)]) rfl ?_
  have hj6 : j < 6 := Nat.lt_of_lt_of_le hj hI.A6
  refine aw_astore_n C dX4_speed_5 (by decide) ?_
  refine aw_aload_n C dX4_speed_6 rfl ?_
  refine aw_get C f96 (hR.ar hj6) rfl dX4_speed_7 ?_
  refine aw_iconst C (v := (-1)) (by decide) dX4_speed_10 ?_
  refine aw_icmp_ne C (tgt := 16) dX4_speed_11 (by decide) (fun c_11 => ?_) (fun c_11 => ?_)
  · obtain ⟨n, hn, hn2⟩ := (hI.2.2.2.1 j hj).2.2.resolve_left c_11
    have hn6 : n < 6 := Nat.lt_of_lt_of_le hn hI.Q6
    refine aw_aload_n C dX4_speed_16 rfl ?_
    refine aw_aload_n C dX4_speed_17 rfl ?_
    refine aw_get C f17 hR.mn rfl dX4_speed_18 ?_
    refine aw_aload_n C dX4_speed_21 rfl ?_
    refine aw_get C f96 (hR.ar hj6) rfl dX4_speed_22 ?_
    refine aw_aaldE C (t0 := 4) rfl hR.aQ hn2 ⟨hn6, by decide⟩ rfl dX4_speed_25 ?_
    refine aw_callV (n := 1) C hE (ci := 2) (q := (RX0, TX0, 12)) (k_X0_speedWith (A := S.A j) (q := S.q n) (cr := S.cr j) B (hR.ar hj6) (hR.qu hn6) (hI.2.2.2.1 j hj).1 (hI.2.2.2.2.2.1 n hn) (hI.2.2.2.1 j hj).2.1) gX4_speed_X0_speedWith rfl ⟨rfl, rfl⟩ (by decide +kernel) ⟨by decide, by decide⟩ rfl rfl (hR.ar hj6) rfl (Nat.le_of_ble_eq_true rfl) dX4_speed_26 ⟨by decide, by decide⟩ (fun v μ' hp => ?_)
    obtain ⟨rfl, hm9⟩ := hp
    replace hm9 := hm9.symm
    subst hm9
    refine aw_st (st' := [.double (spd (S.A j 0) (S.q n 0) (S.cr j))]) rfl ?_
    refine aw_dret C hQe ?_ (by omega) (by omega) dX4_speed_29
    rw [show ix (nI j) = j from ix_nI hj6 (by decide)]
    exact ⟨by simp [stC, hb1], by unfold sdF; rw [if_neg c_11, hn2, show ix (nI n) = n from ix_nI hn6 (by decide)], ⟨_, _, hR⟩, FrC.rf⟩
  · refine aw_dconst0 C dX4_speed_14 ?_
    refine aw_dret C hQe ?_ (by omega) (by omega) dX4_speed_15
    rw [show ix (nI j) = j from ix_nI hj6 (by decide)]
    exact ⟨by simp [stC, hb1], by unfold sdF; rw [if_pos c_11], ⟨_, _, hR⟩, FrC.rf⟩
set_option maxRecDepth 100000 in
set_option maxHeartbeats 4000000 in
theorem k_X4_ofQuiver (hl9 : l.stackTraces = false) (B : Base s0) {μ : mu} {L : Nat → Nat → Nat} {S : SS} (h0 : RX g L S μ) (hI : Iv S) {x w : Int32} : Cy l yX4_ofQuiver wsX4_ofQuiver (rmOf 7 2 12 130) s0 D (tyL g) [.ref (L 0 0), .int x, .int w] μ 2 12 (fun v μ' => oqC S x w = 0 ∧ v = some (.int (oqF S (ix x) (ix w))) ∧ RX g L S μ' ∧ FrC L μ μ') (fun E μ' => px9 [IOB, IAE] (oqC S x w) E ∧ RX g L S μ' ∧ FrC L μ μ') := by
  refine Cy.of (cc := cX4_ofQuiver) (own := RX4) (maxL := 3) (ret := (some .int)) (by decide) rfl rfl (Nat.le_of_ble_eq_true rfl) ?_
  intro p e s m args below meth c Q C hE hnt hQ hQe
  obtain ⟨fh, fv, hR⟩ := h0
  have in_RX4 : ∀ w ∈ u_ws RX4 TX4 16, w ∈ wsX4_ofQuiver := by decide +kernel
  have in_RX3 : ∀ w ∈ u_ws RX3 TX3 5, w ∈ wsX4_ofQuiver := by decide +kernel
  have f17 : FL wsX4_ofQuiver RX4 17 6 "ArrowField" RX4 TX4 16 1 := ⟨in_RX4, rfl, by decide, by decide +kernel, Or.inl rfl⟩
  have f72 : FL wsX4_ofQuiver RX4 72 5 "ArrowField$Quiver" RX3 TX3 5 0 := ⟨in_RX3, rfl, by decide, by decide +kernel, Or.inl rfl⟩
  have f75 : FL wsX4_ofQuiver RX4 75 5 "ArrowField$Quiver" RX3 TX3 5 1 := ⟨in_RX3, rfl, by decide, by decide +kernel, Or.inl rfl⟩
  refine aw_aload_n C dX4_ofQuiver_0 rfl ?_
  refine aw_iload_n C dX4_ofQuiver_1 rfl ?_
  refine ax_callV (n := 1) C hE hQ hnt (ci := 6) (q := (RX4, TX4, 16)) (k_X4_needQuiver (x := x) hl9 B ⟨_, _, hR⟩ hI) gX4_ofQuiver_X4_needQuiver rfl ⟨rfl, rfl⟩ (by decide +kernel) ⟨by decide, by decide⟩ rfl rfl hR.mn rfl (Nat.le_of_ble_eq_true rfl) dX4_ofQuiver_2 ⟨by decide, by decide⟩ ⟨by decide, by decide⟩ (fun E9 μ9 hp => by obtain ⟨rfl, hn, rfl⟩ := hp; exact ⟨⟨by simp [oqC, hn], by simp [oqC, hn]⟩, ⟨_, _, hR⟩, FrC.rf⟩) (fun v μ' hp => ?_)
  obtain ⟨hb1, rfl, hm9⟩ := hp
  replace hm9 := hm9.symm
  subst hm9
  obtain ⟨j, hj, rfl⟩ := inb_of hb1 (by have := hI.Q6; omega)
  have hj6 : j < 6 := Nat.lt_of_lt_of_le hj hI.Q6
  refine aw_st (st' := []) rfl ?_
  refine aw_iload_n C dX4_ofQuiver_5 rfl ?_
  refine aw_iconst C (v := 0) (by decide) dX4_ofQuiver_6 ?_
  refine aw_bipush C (v := 6) (by decide) dX4_ofQuiver_7 ?_
  refine ax_callS (n := 3) C hE hQ hnt (k_X4_needBetween (x := w) (lo := 0) (hi := 6) hl9 B) gX4_ofQuiver_X4_needBetween rfl ⟨rfl, rfl⟩ (by decide +kernel) ⟨by decide, by decide⟩ rfl rfl (Nat.le_of_ble_eq_true rfl) dX4_ofQuiver_9 ⟨by decide, by decide⟩ ⟨by decide, by decide⟩ (fun E9 μ9 hp => by obtain ⟨rfl, hn, rfl⟩ := hp; exact ⟨⟨by simp [oqC, hb1, hn], by simp [oqC, hb1, hn]⟩, ⟨_, _, hR⟩, FrC.rf⟩) (fun v μ' hp => ?_)
  obtain ⟨hb2, rfl, hm9⟩ := hp
  replace hm9 := hm9.symm
  subst hm9
  refine aw_st (st' := []) rfl ?_
  obtain ⟨k, hk, rfl⟩ := btw0 (n := 6) hb2 (by decide)
  refine aw_iload_n C dX4_ofQuiver_12 rfl ?_
  by_cases q13_0 : k = 0
  · subst q13_0
    refine aw_tableIn C (tgt := 52) (off := 39) dX4_ofQuiver_13 (by decide) (by decide) (by decide) (by decide) ?_
    refine aw_aload_n C dX4_ofQuiver_52 rfl ?_
    refine aw_get C f17 hR.mn rfl dX4_ofQuiver_53 ?_
    refine aw_iload_n C dX4_ofQuiver_56 rfl ?_
    refine aw_aaldE C (t0 := 4) rfl hR.aQ rfl ⟨hj6, by decide⟩ rfl dX4_ofQuiver_57 ?_
    refine aw_get C f72 (hR.qu hj6) rfl dX4_ofQuiver_58 ?_
    refine aw_iret C hQe ?_ (by omega) (by omega) dX4_ofQuiver_61
    rw [show ix (nI j) = j from ix_nI hj6 (by decide)]
    exact ⟨by simp [oqC, hb1, hb2], rfl, ⟨_, _, hR⟩, FrC.rf⟩
  by_cases q13_1 : k = 1
  · subst q13_1
    refine aw_tableIn C (tgt := 62) (off := 49) dX4_ofQuiver_13 (by decide) (by decide) (by decide) (by decide) ?_
    refine aw_aload_n C dX4_ofQuiver_62 rfl ?_
    refine aw_get C f17 hR.mn rfl dX4_ofQuiver_63 ?_
    refine aw_iload_n C dX4_ofQuiver_66 rfl ?_
    refine aw_aaldE C (t0 := 4) rfl hR.aQ rfl ⟨hj6, by decide⟩ rfl dX4_ofQuiver_67 ?_
    refine aw_get C f75 (hR.qu hj6) rfl dX4_ofQuiver_68 ?_
    refine aw_iret C hQe ?_ (by omega) (by omega) dX4_ofQuiver_71
    rw [show ix (nI j) = j from ix_nI hj6 (by decide)]
    exact ⟨by simp [oqC, hb1, hb2], rfl, ⟨_, _, hR⟩, FrC.rf⟩
  by_cases q13_2 : k = 2
  · subst q13_2
    refine aw_tableIn C (tgt := 72) (off := 59) dX4_ofQuiver_13 (by decide) (by decide) (by decide) (by decide) ?_
    refine aw_aload_n C dX4_ofQuiver_72 rfl ?_
    refine aw_iload_n C dX4_ofQuiver_73 rfl ?_
    refine aw_callV (n := 1) C hE (ci := 6) (q := (RX4, TX4, 16)) (k_X4_holderOf (x := (nI j)) B ⟨_, _, hR⟩ hI) gX4_ofQuiver_X4_holderOf rfl ⟨rfl, rfl⟩ (by decide +kernel) ⟨by decide, by decide⟩ rfl rfl hR.mn rfl (Nat.le_of_ble_eq_true rfl) dX4_ofQuiver_74 ⟨by decide, by decide⟩ (fun v μ' hp => ?_)
    obtain ⟨rfl, hm9⟩ := hp
    replace hm9 := hm9.symm
    subst hm9
    refine aw_st (st' := [.int (hoF S (nI j))]) rfl ?_
    refine aw_iret C hQe ?_ (by omega) (by omega) dX4_ofQuiver_77
    rw [show ix (nI j) = j from ix_nI hj6 (by decide)]
    exact ⟨by simp [oqC, hb1, hb2], rfl, ⟨_, _, hR⟩, FrC.rf⟩
  by_cases q13_3 : k = 3
  · subst q13_3
    refine aw_tableIn C (tgt := 78) (off := 65) dX4_ofQuiver_13 (by decide) (by decide) (by decide) (by decide) ?_
    refine aw_aload_n C dX4_ofQuiver_78 rfl ?_
    refine aw_get C f17 hR.mn rfl dX4_ofQuiver_79 ?_
    refine aw_iload_n C dX4_ofQuiver_82 rfl ?_
    refine aw_aaldE C (t0 := 4) rfl hR.aQ rfl ⟨hj6, by decide⟩ rfl dX4_ofQuiver_83 ?_
    refine aw_iconst C (v := 0) (by decide) dX4_ofQuiver_84 ?_
    refine aw_callV (n := 1) C hE (ci := 5) (q := (RX3, TX3, 5)) (k_X3_setOf (q := S.q j) (st := L 7 j) (hh := L 8 j) (vv := L 9 j) (f := S.F j) (x := 0) B (hR.qu hj6) (hR.st hj6)) gX4_ofQuiver_X3_setOf rfl ⟨rfl, rfl⟩ (by decide +kernel) ⟨by decide, by decide⟩ rfl rfl (hR.qu hj6) rfl (Nat.le_of_ble_eq_true rfl) dX4_ofQuiver_85 ⟨by decide, by decide⟩ (fun v μ' hp => ?_)
    obtain ⟨rfl, hm9⟩ := hp
    replace hm9 := hm9.symm
    subst hm9
    refine aw_st (st' := [.int (setN (S.F j) 0 12)]) rfl ?_
    refine aw_iret C hQe ?_ (by omega) (by omega) dX4_ofQuiver_88
    rw [show ix (nI j) = j from ix_nI hj6 (by decide)]
    exact ⟨by simp [oqC, hb1, hb2], rfl, ⟨_, _, hR⟩, FrC.rf⟩
  by_cases q13_4 : k = 4
  · subst q13_4
    refine aw_tableIn C (tgt := 89) (off := 76) dX4_ofQuiver_13 (by decide) (by decide) (by decide) (by decide) ?_
    refine aw_aload_n C dX4_ofQuiver_89 rfl ?_
    refine aw_get C f17 hR.mn rfl dX4_ofQuiver_90 ?_
    refine aw_iload_n C dX4_ofQuiver_93 rfl ?_
    refine aw_aaldE C (t0 := 4) rfl hR.aQ rfl ⟨hj6, by decide⟩ rfl dX4_ofQuiver_94 ?_
    refine aw_iconst C (v := 1) (by decide) dX4_ofQuiver_95 ?_
    refine aw_callV (n := 1) C hE (ci := 5) (q := (RX3, TX3, 5)) (k_X3_setOf (q := S.q j) (st := L 7 j) (hh := L 8 j) (vv := L 9 j) (f := S.F j) (x := 1) B (hR.qu hj6) (hR.st hj6)) gX4_ofQuiver_X3_setOf rfl ⟨rfl, rfl⟩ (by decide +kernel) ⟨by decide, by decide⟩ rfl rfl (hR.qu hj6) rfl (Nat.le_of_ble_eq_true rfl) dX4_ofQuiver_96 ⟨by decide, by decide⟩ (fun v μ' hp => ?_)
    obtain ⟨rfl, hm9⟩ := hp
    replace hm9 := hm9.symm
    subst hm9
    refine aw_st (st' := [.int (setN (S.F j) 1 12)]) rfl ?_
    refine aw_iret C hQe ?_ (by omega) (by omega) dX4_ofQuiver_99
    rw [show ix (nI j) = j from ix_nI hj6 (by decide)]
    exact ⟨by simp [oqC, hb1, hb2], rfl, ⟨_, _, hR⟩, FrC.rf⟩
  by_cases q13_5 : k = 5
  · subst q13_5
    refine aw_tableIn C (tgt := 100) (off := 87) dX4_ofQuiver_13 (by decide) (by decide) (by decide) (by decide) ?_
    refine aw_aload_n C dX4_ofQuiver_100 rfl ?_
    refine aw_get C f17 hR.mn rfl dX4_ofQuiver_101 ?_
    refine aw_iload_n C dX4_ofQuiver_104 rfl ?_
    refine aw_aaldE C (t0 := 4) rfl hR.aQ rfl ⟨hj6, by decide⟩ rfl dX4_ofQuiver_105 ?_
    refine aw_iconst C (v := 2) (by decide) dX4_ofQuiver_106 ?_
    refine aw_callV (n := 1) C hE (ci := 5) (q := (RX3, TX3, 5)) (k_X3_setOf (q := S.q j) (st := L 7 j) (hh := L 8 j) (vv := L 9 j) (f := S.F j) (x := 2) B (hR.qu hj6) (hR.st hj6)) gX4_ofQuiver_X3_setOf rfl ⟨rfl, rfl⟩ (by decide +kernel) ⟨by decide, by decide⟩ rfl rfl (hR.qu hj6) rfl (Nat.le_of_ble_eq_true rfl) dX4_ofQuiver_107 ⟨by decide, by decide⟩ (fun v μ' hp => ?_)
    obtain ⟨rfl, hm9⟩ := hp
    replace hm9 := hm9.symm
    subst hm9
    refine aw_st (st' := [.int (setN (S.F j) 2 12)]) rfl ?_
    refine aw_iret C hQe ?_ (by omega) (by omega) dX4_ofQuiver_110
    rw [show ix (nI j) = j from ix_nI hj6 (by decide)]
    exact ⟨by simp [oqC, hb1, hb2], rfl, ⟨_, _, hR⟩, FrC.rf⟩
  by_cases q13_6 : k = 6
  · subst q13_6
    refine aw_tableOut C (tgt := 111) dX4_ofQuiver_13 (by decide) (by decide) ?_
    refine aw_aload_n C dX4_ofQuiver_111 rfl ?_
    refine aw_get C f17 hR.mn rfl dX4_ofQuiver_112 ?_
    refine aw_iload_n C dX4_ofQuiver_115 rfl ?_
    refine aw_aaldE C (t0 := 4) rfl hR.aQ rfl ⟨hj6, by decide⟩ rfl dX4_ofQuiver_116 ?_
    refine aw_iconst C (v := 3) (by decide) dX4_ofQuiver_117 ?_
    refine aw_callV (n := 1) C hE (ci := 5) (q := (RX3, TX3, 5)) (k_X3_setOf (q := S.q j) (st := L 7 j) (hh := L 8 j) (vv := L 9 j) (f := S.F j) (x := 3) B (hR.qu hj6) (hR.st hj6)) gX4_ofQuiver_X3_setOf rfl ⟨rfl, rfl⟩ (by decide +kernel) ⟨by decide, by decide⟩ rfl rfl (hR.qu hj6) rfl (Nat.le_of_ble_eq_true rfl) dX4_ofQuiver_118 ⟨by decide, by decide⟩ (fun v μ' hp => ?_)
    obtain ⟨rfl, hm9⟩ := hp
    replace hm9 := hm9.symm
    subst hm9
    refine aw_st (st' := [.int (setN (S.F j) 3 12)]) rfl ?_
    refine aw_iret C hQe ?_ (by omega) (by omega) dX4_ofQuiver_121
    rw [show ix (nI j) = j from ix_nI hj6 (by decide)]
    exact ⟨by simp [oqC, hb1, hb2], rfl, ⟨_, _, hR⟩, FrC.rf⟩
  exact absurd hk (by omega)
set_option maxRecDepth 100000 in
set_option maxHeartbeats 4000000 in
theorem k_X4_hit (hl9 : l.stackTraces = false) (B : Base s0) {μ : mu} {L : Nat → Nat → Nat} {S : SS} (h0 : RX g L S μ) (hI : Iv S) {x y b : Int32} : Cy l yX4_hit wsX4_hit (rmOf 7 2 12 130) s0 D (tyL g) [.ref (L 0 0), .int x, .int y, .int b] μ 2 12 (fun v μ' => hiC S x y = 0 ∧ v = some (.double (hiF S (ix x) (ix y) b)) ∧ RX g L S μ' ∧ FrC L μ μ') (fun E μ' => px9 [IOB] (hiC S x y) E ∧ RX g L S μ' ∧ FrC L μ μ') := by
  refine Cy.of (cc := cX4_hit) (own := RX4) (maxL := 4) (ret := (some .double)) (by decide) rfl rfl (Nat.le_of_ble_eq_true rfl) ?_
  intro p e s m args below meth c Q C hE hnt hQ hQe
  obtain ⟨fh, fv, hR⟩ := h0
  have in_RX4 : ∀ w ∈ u_ws RX4 TX4 16, w ∈ wsX4_hit := by decide +kernel
  have in_RX3 : ∀ w ∈ u_ws RX3 TX3 5, w ∈ wsX4_hit := by decide +kernel
  have f17 : FL wsX4_hit RX4 17 6 "ArrowField" RX4 TX4 16 1 := ⟨in_RX4, rfl, by decide, by decide +kernel, Or.inl rfl⟩
  have f230 : FL wsX4_hit RX4 230 5 "ArrowField$Quiver" RX3 TX3 5 3 := ⟨in_RX3, rfl, by decide, by decide +kernel, Or.inl rfl⟩
  have f226 : FL wsX4_hit RX4 226 5 "ArrowField$Quiver" RX3 TX3 5 4 := ⟨in_RX3, rfl, by decide, by decide +kernel, Or.inl rfl⟩
  refine aw_aload_n C dX4_hit_0 rfl ?_
  refine aw_iload_n C dX4_hit_1 rfl ?_
  refine ax_callV (n := 1) C hE hQ hnt (ci := 6) (q := (RX4, TX4, 16)) (k_X4_needQuiver (x := x) hl9 B ⟨_, _, hR⟩ hI) gX4_hit_X4_needQuiver rfl ⟨rfl, rfl⟩ (by decide +kernel) ⟨by decide, by decide⟩ rfl rfl hR.mn rfl (Nat.le_of_ble_eq_true rfl) dX4_hit_2 ⟨by decide, by decide⟩ ⟨by decide, by decide⟩ (fun E9 μ9 hp => by obtain ⟨rfl, hn, rfl⟩ := hp; exact ⟨⟨by simp [hiC, hn], by simp [hiC, hn]⟩, ⟨_, _, hR⟩, FrC.rf⟩) (fun v μ' hp => ?_)
  obtain ⟨hb1, rfl, hm9⟩ := hp
  replace hm9 := hm9.symm
  subst hm9
  obtain ⟨j, hj, rfl⟩ := inb_of hb1 (by have := hI.Q6; omega)
  have hj6 : j < 6 := Nat.lt_of_lt_of_le hj hI.Q6
  refine aw_st (st' := []) rfl ?_
  refine aw_iload_n C dX4_hit_5 rfl ?_
  refine ax_callS (n := 1) C hE hQ hnt (k_X4_needArrow (x := y) hl9 B) gX4_hit_X4_needArrow rfl ⟨rfl, rfl⟩ (by decide +kernel) ⟨by decide, by decide⟩ rfl rfl (Nat.le_of_ble_eq_true rfl) dX4_hit_6 ⟨by decide, by decide⟩ ⟨by decide, by decide⟩ (fun E9 μ9 hp => by obtain ⟨rfl, hn, rfl⟩ := hp; exact ⟨⟨by simp [hiC, hb1, hn], by simp [hiC, hb1, hn]⟩, ⟨_, _, hR⟩, FrC.rf⟩) (fun v μ' hp => ?_)
  obtain ⟨hb2, rfl, hm9⟩ := hp
  replace hm9 := hm9.symm
  subst hm9
  obtain ⟨k, hk, rfl⟩ := inb_of hb2 (by decide)
  refine aw_st (st' := []) rfl ?_
  refine aw_iload_n C dX4_hit_9 rfl ?_
  refine aw_if_eq C (tgt := 27) dX4_hit_10 (by decide) (fun c_10 => ?_) (fun c_10 => ?_)
  · refine aw_aload_n C dX4_hit_27 rfl ?_
    refine aw_get C f17 hR.mn rfl dX4_hit_28 ?_
    refine aw_iload_n C dX4_hit_31 rfl ?_
    refine aw_aaldE C (t0 := 4) rfl hR.aQ rfl ⟨hj6, by decide⟩ rfl dX4_hit_32 ?_
    refine aw_get C f230 (hR.qu hj6) rfl dX4_hit_33 ?_
    refine aw_iload_n C dX4_hit_36 rfl ?_
    refine aw_daldE C (hR.hh hj6) rfl ⟨hk, by decide⟩ rfl dX4_hit_37 ?_
    refine aw_dret C hQe ?_ (by omega) (by omega) dX4_hit_38
    rw [show ix (nI j) = j from ix_nI hj6 (by decide)]
    rw [show ix (nI k) = k from ix_nI hk (by decide)]
    exact ⟨by simp [hiC, hb1, hb2], by unfold hiF; rw [if_pos c_10], ⟨_, _, hR⟩, FrC.rf⟩
  · refine aw_aload_n C dX4_hit_13 rfl ?_
    refine aw_get C f17 hR.mn rfl dX4_hit_14 ?_
    refine aw_iload_n C dX4_hit_17 rfl ?_
    refine aw_aaldE C (t0 := 4) rfl hR.aQ rfl ⟨hj6, by decide⟩ rfl dX4_hit_18 ?_
    refine aw_get C f226 (hR.qu hj6) rfl dX4_hit_19 ?_
    refine aw_iload_n C dX4_hit_22 rfl ?_
    refine aw_daldE C (hR.vv hj6) rfl ⟨hk, by decide⟩ rfl dX4_hit_23 ?_
    refine aw_goto C (tgt := 38) dX4_hit_24 (by decide) ?_
    refine aw_dret C hQe ?_ (by omega) (by omega) dX4_hit_38
    rw [show ix (nI j) = j from ix_nI hj6 (by decide)]
    rw [show ix (nI k) = k from ix_nI hk (by decide)]
    exact ⟨by simp [hiC, hb1, hb2], by unfold hiF; rw [if_neg c_10], ⟨_, _, hR⟩, FrC.rf⟩
set_option maxRecDepth 100000 in
set_option maxHeartbeats 4000000 in
theorem k_X4_many (hl9 : l.stackTraces = false) (B : Base s0) {μ : mu} {L : Nat → Nat → Nat} {S : SS} (h0 : RX g L S μ) (hI : Iv S) {w : Int32} : Cy l yX4_many wsX4_many (rmOf 7 1 6 130) s0 D (tyL g) [.ref (L 0 0), .int w] μ 1 6 (fun v μ' => mnC w = 0 ∧ v = some (.int (mnF S (ix w))) ∧ RX g L S μ' ∧ FrC L μ μ') (fun E μ' => px9 [IAE] (mnC w) E ∧ RX g L S μ' ∧ FrC L μ μ') := by
  refine Cy.of (cc := cX4_many) (own := RX4) (maxL := 2) (ret := (some .int)) (by decide) rfl rfl (Nat.le_of_ble_eq_true rfl) ?_
  intro p e s m args below meth c Q C hE hnt hQ hQe
  obtain ⟨fh, fv, hR⟩ := h0
  have in_RX4 : ∀ w ∈ u_ws RX4 TX4 16, w ∈ wsX4_many := by decide +kernel
  have f51 : FL wsX4_many RX4 51 6 "ArrowField" RX4 TX4 16 2 := ⟨in_RX4, rfl, by decide, by decide +kernel, Or.inl rfl⟩
  have f67 : FL wsX4_many RX4 67 6 "ArrowField" RX4 TX4 16 3 := ⟨in_RX4, rfl, by decide, by decide +kernel, Or.inl rfl⟩
  have f21 : FL wsX4_many RX4 21 6 "ArrowField" RX4 TX4 16 4 := ⟨in_RX4, rfl, by decide, by decide +kernel, Or.inl rfl⟩
  have f115 : FL wsX4_many RX4 115 6 "ArrowField" RX4 TX4 16 5 := ⟨in_RX4, rfl, by decide, by decide +kernel, Or.inl rfl⟩
  have f25 : FL wsX4_many RX4 25 6 "ArrowField" RX4 TX4 16 6 := ⟨in_RX4, rfl, by decide, by decide +kernel, Or.inl rfl⟩
  have f164 : FL wsX4_many RX4 164 6 "ArrowField" RX4 TX4 16 9 := ⟨in_RX4, rfl, by decide, by decide +kernel, Or.inl rfl⟩
  have f233 : FL wsX4_many RX4 233 6 "ArrowField" RX4 TX4 16 10 := ⟨in_RX4, rfl, by decide, by decide +kernel, Or.inl rfl⟩
  have f145 : FL wsX4_many RX4 145 6 "ArrowField" RX4 TX4 16 8 := ⟨in_RX4, rfl, by decide, by decide +kernel, Or.inl rfl⟩
  have f187 : FL wsX4_many RX4 187 6 "ArrowField" RX4 TX4 16 13 := ⟨in_RX4, rfl, by decide, by decide +kernel, Or.inl rfl⟩
  have f121 : FL wsX4_many RX4 121 6 "ArrowField" RX4 TX4 16 7 := ⟨in_RX4, rfl, by decide, by decide +kernel, Or.inl rfl⟩
  have f198 : FL wsX4_many RX4 198 6 "ArrowField" RX4 TX4 16 11 := ⟨in_RX4, rfl, by decide, by decide +kernel, Or.inl rfl⟩
  refine aw_iload_n C dX4_many_0 rfl ?_
  refine aw_iconst C (v := 0) (by decide) dX4_many_1 ?_
  refine aw_bipush C (v := 11) (by decide) dX4_many_2 ?_
  refine ax_callS (n := 3) C hE hQ hnt (k_X4_needBetween (x := w) (lo := 0) (hi := 11) hl9 B) gX4_many_X4_needBetween rfl ⟨rfl, rfl⟩ (by decide +kernel) ⟨by decide, by decide⟩ rfl rfl (Nat.le_of_ble_eq_true rfl) dX4_many_4 ⟨by decide, by decide⟩ ⟨by decide, by decide⟩ (fun E9 μ9 hp => by obtain ⟨rfl, hn, rfl⟩ := hp; exact ⟨⟨by simp [mnC, hn], by simp [mnC, hn]⟩, ⟨_, _, hR⟩, FrC.rf⟩) (fun v μ' hp => ?_)
  obtain ⟨hb1, rfl, hm9⟩ := hp
  replace hm9 := hm9.symm
  subst hm9
  refine aw_st (st' := []) rfl ?_
  obtain ⟨k, hk, rfl⟩ := btw0 (n := 11) hb1 (by decide)
  refine aw_iload_n C dX4_many_7 rfl ?_
  by_cases q8_0 : k = 0
  · subst q8_0
    refine aw_tableIn C (tgt := 68) (off := 60) dX4_many_8 (by decide) (by decide) (by decide) (by decide) ?_
    refine aw_aload_n C dX4_many_68 rfl ?_
    refine aw_get C f51 hR.mn rfl dX4_many_69 ?_
    refine aw_iret C hQe ?_ (by omega) (by omega) dX4_many_72
    exact ⟨by simp [mnC, hb1], rfl, ⟨_, _, hR⟩, FrC.rf⟩
  by_cases q8_1 : k = 1
  · subst q8_1
    refine aw_tableIn C (tgt := 73) (off := 65) dX4_many_8 (by decide) (by decide) (by decide) (by decide) ?_
    refine aw_aload_n C dX4_many_73 rfl ?_
    refine aw_get C f67 hR.mn rfl dX4_many_74 ?_
    refine aw_iret C hQe ?_ (by omega) (by omega) dX4_many_77
    exact ⟨by simp [mnC, hb1], rfl, ⟨_, _, hR⟩, FrC.rf⟩
  by_cases q8_2 : k = 2
  · subst q8_2
    refine aw_tableIn C (tgt := 78) (off := 70) dX4_many_8 (by decide) (by decide) (by decide) (by decide) ?_
    refine aw_aload_n C dX4_many_78 rfl ?_
    refine aw_get C f21 hR.mn rfl dX4_many_79 ?_
    refine aw_iret C hQe ?_ (by omega) (by omega) dX4_many_82
    exact ⟨by simp [mnC, hb1], rfl, ⟨_, _, hR⟩, FrC.rf⟩
  by_cases q8_3 : k = 3
  · subst q8_3
    refine aw_tableIn C (tgt := 83) (off := 75) dX4_many_8 (by decide) (by decide) (by decide) (by decide) ?_
    refine aw_aload_n C dX4_many_83 rfl ?_
    refine aw_get C f115 hR.mn rfl dX4_many_84 ?_
    refine aw_iret C hQe ?_ (by omega) (by omega) dX4_many_87
    exact ⟨by simp [mnC, hb1], rfl, ⟨_, _, hR⟩, FrC.rf⟩
  by_cases q8_4 : k = 4
  · subst q8_4
    refine aw_tableIn C (tgt := 88) (off := 80) dX4_many_8 (by decide) (by decide) (by decide) (by decide) ?_
    refine aw_aload_n C dX4_many_88 rfl ?_
    refine aw_get C f25 hR.mn rfl dX4_many_89 ?_
    refine aw_iret C hQe ?_ (by omega) (by omega) dX4_many_92
    exact ⟨by simp [mnC, hb1], rfl, ⟨_, _, hR⟩, FrC.rf⟩
  by_cases q8_5 : k = 5
  · subst q8_5
    refine aw_tableIn C (tgt := 93) (off := 85) dX4_many_8 (by decide) (by decide) (by decide) (by decide) ?_
    refine aw_aload_n C dX4_many_93 rfl ?_
    refine aw_callV (n := 0) C hE (ci := 6) (q := (RX4, TX4, 16)) (k_X4_stuckArrows B ⟨_, _, hR⟩ hI) gX4_many_X4_stuckArrows rfl ⟨rfl, rfl⟩ (by decide +kernel) ⟨by decide, by decide⟩ rfl rfl hR.mn rfl (Nat.le_of_ble_eq_true rfl) dX4_many_94 ⟨by decide, by decide⟩ (fun v μ' hp => ?_)
    obtain ⟨rfl, hm9⟩ := hp
    replace hm9 := hm9.symm
    subst hm9
    refine aw_st (st' := [.int (skF S)]) rfl ?_
    refine aw_iret C hQe ?_ (by omega) (by omega) dX4_many_97
    exact ⟨by simp [mnC, hb1], rfl, ⟨_, _, hR⟩, FrC.rf⟩
  by_cases q8_6 : k = 6
  · subst q8_6
    refine aw_tableIn C (tgt := 98) (off := 90) dX4_many_8 (by decide) (by decide) (by decide) (by decide) ?_
    refine aw_aload_n C dX4_many_98 rfl ?_
    refine aw_get C f164 hR.mn rfl dX4_many_99 ?_
    refine aw_iret C hQe ?_ (by omega) (by omega) dX4_many_102
    exact ⟨by simp [mnC, hb1], rfl, ⟨_, _, hR⟩, FrC.rf⟩
  by_cases q8_7 : k = 7
  · subst q8_7
    refine aw_tableIn C (tgt := 103) (off := 95) dX4_many_8 (by decide) (by decide) (by decide) (by decide) ?_
    refine aw_aload_n C dX4_many_103 rfl ?_
    refine aw_get C f233 hR.mn rfl dX4_many_104 ?_
    refine aw_iret C hQe ?_ (by omega) (by omega) dX4_many_107
    exact ⟨by simp [mnC, hb1], rfl, ⟨_, _, hR⟩, FrC.rf⟩
  by_cases q8_8 : k = 8
  · subst q8_8
    refine aw_tableIn C (tgt := 108) (off := 100) dX4_many_8 (by decide) (by decide) (by decide) (by decide) ?_
    refine aw_aload_n C dX4_many_108 rfl ?_
    refine aw_get C f145 hR.mn rfl dX4_many_109 ?_
    refine aw_iret C hQe ?_ (by omega) (by omega) dX4_many_112
    exact ⟨by simp [mnC, hb1], rfl, ⟨_, _, hR⟩, FrC.rf⟩
  by_cases q8_9 : k = 9
  · subst q8_9
    refine aw_tableIn C (tgt := 113) (off := 105) dX4_many_8 (by decide) (by decide) (by decide) (by decide) ?_
    refine aw_aload_n C dX4_many_113 rfl ?_
    refine aw_get C f187 hR.mn rfl dX4_many_114 ?_
    refine aw_iret C hQe ?_ (by omega) (by omega) dX4_many_117
    exact ⟨by simp [mnC, hb1], rfl, ⟨_, _, hR⟩, FrC.rf⟩
  by_cases q8_10 : k = 10
  · subst q8_10
    refine aw_tableIn C (tgt := 118) (off := 110) dX4_many_8 (by decide) (by decide) (by decide) (by decide) ?_
    refine aw_aload_n C dX4_many_118 rfl ?_
    refine aw_get C f121 hR.mn rfl dX4_many_119 ?_
    refine aw_if_eq C (tgt := 129) dX4_many_122 (by decide) (fun c_122 => ?_) (fun c_122 => ?_)
    · refine aw_iconst C (v := 0) (by decide) dX4_many_129 ?_
      refine aw_iret C hQe ?_ (by omega) (by omega) dX4_many_130
      exact ⟨by simp [mnC, hb1], congrArg (fun z => some (Value.int z)) (show S.c 7 = 0 from c_122).symm, ⟨_, _, hR⟩, FrC.rf⟩
    · refine aw_iconst C (v := 1) (by decide) dX4_many_125 ?_
      refine aw_goto C (tgt := 130) dX4_many_126 (by decide) ?_
      refine aw_iret C hQe ?_ (by omega) (by omega) dX4_many_130
      exact ⟨by simp [mnC, hb1], congrArg (fun z => some (Value.int z)) (show S.c 7 = 1 from hI.2.2.1.resolve_left c_122).symm, ⟨_, _, hR⟩, FrC.rf⟩
  by_cases q8_11 : k = 11
  · subst q8_11
    refine aw_tableOut C (tgt := 131) dX4_many_8 (by decide) (by decide) ?_
    refine aw_aload_n C dX4_many_131 rfl ?_
    refine aw_get C f198 hR.mn rfl dX4_many_132 ?_
    refine aw_iret C hQe ?_ (by omega) (by omega) dX4_many_135
    exact ⟨by simp [mnC, hb1], rfl, ⟨_, _, hR⟩, FrC.rf⟩
  exact absurd hk (by omega)
set_option maxRecDepth 100000 in
set_option maxHeartbeats 4000000 in
theorem k_X4_ofMatch (hl9 : l.stackTraces = false) (B : Base s0) {μ : mu} {L : Nat → Nat → Nat} {S : SS} (h0 : RX g L S μ) (hI : Iv S) {w : Int32} : Cy l yX4_ofMatch wsX4_ofMatch (rmOf 7 1 6 130) s0 D (tyL g) [.ref (L 0 0), .int w] μ 1 6 (fun v μ' => omC w = 0 ∧ v = some (.int (omF S (ix w))) ∧ RX g L S μ' ∧ FrC L μ μ') (fun E μ' => px9 [IAE] (omC w) E ∧ RX g L S μ' ∧ FrC L μ μ') := by
  refine Cy.of (cc := cX4_ofMatch) (own := RX4) (maxL := 2) (ret := (some .int)) (by decide) rfl rfl (Nat.le_of_ble_eq_true rfl) ?_
  intro p e s m args below meth c Q C hE hnt hQ hQe
  obtain ⟨fh, fv, hR⟩ := h0
  have in_RX4 : ∀ w ∈ u_ws RX4 TX4 16, w ∈ wsX4_ofMatch := by decide +kernel
  have in_RX2 : ∀ w ∈ u_ws RX2 TX2 10, w ∈ wsX4_ofMatch := by decide +kernel
  have f31 : FL wsX4_ofMatch RX4 31 6 "ArrowField" RX4 TX4 16 12 := ⟨in_RX4, rfl, by decide, by decide +kernel, Or.inl rfl⟩
  have f86 : FL wsX4_ofMatch RX4 86 4 "ArrowField$Match" RX2 TX2 10 0 := ⟨in_RX2, rfl, by decide, by decide +kernel, Or.inl rfl⟩
  have f236 : FL wsX4_ofMatch RX4 236 4 "ArrowField$Match" RX2 TX2 10 1 := ⟨in_RX2, rfl, by decide, by decide +kernel, Or.inl rfl⟩
  have f239 : FL wsX4_ofMatch RX4 239 4 "ArrowField$Match" RX2 TX2 10 2 := ⟨in_RX2, rfl, by decide, by decide +kernel, Or.inl rfl⟩
  have f192 : FL wsX4_ofMatch RX4 192 4 "ArrowField$Match" RX2 TX2 10 3 := ⟨in_RX2, rfl, by decide, by decide +kernel, Or.inl rfl⟩
  have f195 : FL wsX4_ofMatch RX4 195 4 "ArrowField$Match" RX2 TX2 10 4 := ⟨in_RX2, rfl, by decide, by decide +kernel, Or.inl rfl⟩
  have f242 : FL wsX4_ofMatch RX4 242 4 "ArrowField$Match" RX2 TX2 10 5 := ⟨in_RX2, rfl, by decide, by decide +kernel, Or.inl rfl⟩
  have f245 : FL wsX4_ofMatch RX4 245 4 "ArrowField$Match" RX2 TX2 10 6 := ⟨in_RX2, rfl, by decide, by decide +kernel, Or.inl rfl⟩
  have f248 : FL wsX4_ofMatch RX4 248 4 "ArrowField$Match" RX2 TX2 10 8 := ⟨in_RX2, rfl, by decide, by decide +kernel, Or.inl rfl⟩
  refine aw_iload_n C dX4_ofMatch_0 rfl ?_
  refine aw_iconst C (v := 0) (by decide) dX4_ofMatch_1 ?_
  refine aw_bipush C (v := 7) (by decide) dX4_ofMatch_2 ?_
  refine ax_callS (n := 3) C hE hQ hnt (k_X4_needBetween (x := w) (lo := 0) (hi := 7) hl9 B) gX4_ofMatch_X4_needBetween rfl ⟨rfl, rfl⟩ (by decide +kernel) ⟨by decide, by decide⟩ rfl rfl (Nat.le_of_ble_eq_true rfl) dX4_ofMatch_4 ⟨by decide, by decide⟩ ⟨by decide, by decide⟩ (fun E9 μ9 hp => by obtain ⟨rfl, hn, rfl⟩ := hp; exact ⟨⟨by simp [omC, hn], by simp [omC, hn]⟩, ⟨_, _, hR⟩, FrC.rf⟩) (fun v μ' hp => ?_)
  obtain ⟨hb1, rfl, hm9⟩ := hp
  replace hm9 := hm9.symm
  subst hm9
  refine aw_st (st' := []) rfl ?_
  obtain ⟨k, hk, rfl⟩ := btw0 (n := 7) hb1 (by decide)
  refine aw_aload_n C dX4_ofMatch_7 rfl ?_
  refine aw_get C f31 hR.mn rfl dX4_ofMatch_8 ?_
  refine aw_get C f86 hR.mt rfl dX4_ofMatch_11 ?_
  refine aw_if_ne C (tgt := 19) dX4_ofMatch_14 (by decide) (fun c_14 => ?_) (fun c_14 => ?_)
  · obtain ⟨-, k7, -, -, h74, h7, -, -, -, -, -, h8⟩ := hI.on c_14
    refine aw_iload_n C dX4_ofMatch_19 rfl ?_
    by_cases q20_0 : k = 0
    · subst q20_0
      refine aw_tableIn C (tgt := 64) (off := 44) dX4_ofMatch_20 (by decide) (by decide) (by decide) (by decide) ?_
      refine aw_aload_n C dX4_ofMatch_64 rfl ?_
      refine aw_get C f31 hR.mn rfl dX4_ofMatch_65 ?_
      refine aw_get C f236 hR.mt rfl dX4_ofMatch_68 ?_
      refine aw_iret C hQe ?_ (by omega) (by omega) dX4_ofMatch_71
      exact ⟨by simp [omC, hb1], by rw [show omF S (ix (nI 0)) = S.t (0 + 1) from omF_on c_14 (by decide)], ⟨_, _, hR⟩, FrC.rf⟩
    by_cases q20_1 : k = 1
    · subst q20_1
      refine aw_tableIn C (tgt := 72) (off := 52) dX4_ofMatch_20 (by decide) (by decide) (by decide) (by decide) ?_
      refine aw_aload_n C dX4_ofMatch_72 rfl ?_
      refine aw_get C f31 hR.mn rfl dX4_ofMatch_73 ?_
      refine aw_get C f239 hR.mt rfl dX4_ofMatch_76 ?_
      refine aw_iret C hQe ?_ (by omega) (by omega) dX4_ofMatch_79
      exact ⟨by simp [omC, hb1], by rw [show omF S (ix (nI 1)) = S.t (1 + 1) from omF_on c_14 (by decide)], ⟨_, _, hR⟩, FrC.rf⟩
    by_cases q20_2 : k = 2
    · subst q20_2
      refine aw_tableIn C (tgt := 80) (off := 60) dX4_ofMatch_20 (by decide) (by decide) (by decide) (by decide) ?_
      refine aw_aload_n C dX4_ofMatch_80 rfl ?_
      refine aw_get C f31 hR.mn rfl dX4_ofMatch_81 ?_
      refine aw_get C f192 hR.mt rfl dX4_ofMatch_84 ?_
      refine aw_iret C hQe ?_ (by omega) (by omega) dX4_ofMatch_87
      exact ⟨by simp [omC, hb1], by rw [show omF S (ix (nI 2)) = S.t (2 + 1) from omF_on c_14 (by decide)], ⟨_, _, hR⟩, FrC.rf⟩
    by_cases q20_3 : k = 3
    · subst q20_3
      refine aw_tableIn C (tgt := 88) (off := 68) dX4_ofMatch_20 (by decide) (by decide) (by decide) (by decide) ?_
      refine aw_aload_n C dX4_ofMatch_88 rfl ?_
      refine aw_get C f31 hR.mn rfl dX4_ofMatch_89 ?_
      refine aw_get C f195 hR.mt rfl dX4_ofMatch_92 ?_
      refine aw_iret C hQe ?_ (by omega) (by omega) dX4_ofMatch_95
      exact ⟨by simp [omC, hb1], by rw [show omF S (ix (nI 3)) = S.t (3 + 1) from omF_on c_14 (by decide)], ⟨_, _, hR⟩, FrC.rf⟩
    by_cases q20_4 : k = 4
    · subst q20_4
      refine aw_tableIn C (tgt := 96) (off := 76) dX4_ofMatch_20 (by decide) (by decide) (by decide) (by decide) ?_
      refine aw_aload_n C dX4_ofMatch_96 rfl ?_
      refine aw_get C f31 hR.mn rfl dX4_ofMatch_97 ?_
      refine aw_get C f242 hR.mt rfl dX4_ofMatch_100 ?_
      refine aw_iret C hQe ?_ (by omega) (by omega) dX4_ofMatch_103
      exact ⟨by simp [omC, hb1], by rw [show omF S (ix (nI 4)) = S.t (4 + 1) from omF_on c_14 (by decide)], ⟨_, _, hR⟩, FrC.rf⟩
    by_cases q20_5 : k = 5
    · subst q20_5
      refine aw_tableIn C (tgt := 104) (off := 84) dX4_ofMatch_20 (by decide) (by decide) (by decide) (by decide) ?_
      refine aw_aload_n C dX4_ofMatch_104 rfl ?_
      refine aw_get C f31 hR.mn rfl dX4_ofMatch_105 ?_
      refine aw_get C f245 hR.mt rfl dX4_ofMatch_108 ?_
      refine aw_iret C hQe ?_ (by omega) (by omega) dX4_ofMatch_111
      exact ⟨by simp [omC, hb1], by rw [show omF S (ix (nI 5)) = S.t (5 + 1) from omF_on c_14 (by decide)], ⟨_, _, hR⟩, FrC.rf⟩
    by_cases q20_6 : k = 6
    · subst q20_6
      refine aw_tableIn C (tgt := 112) (off := 92) dX4_ofMatch_20 (by decide) (by decide) (by decide) (by decide) ?_
      refine aw_aload_n C dX4_ofMatch_112 rfl ?_
      refine aw_get C f31 hR.mn rfl dX4_ofMatch_113 ?_
      refine aw_callV (n := 0) C hE (ci := 4) (q := (RX2, TX2, 10)) (k_X2_turn B hR.mt h7 h74) gX4_ofMatch_X2_turn rfl ⟨rfl, rfl⟩ (by decide +kernel) ⟨by decide, by decide⟩ rfl rfl hR.mt rfl (Nat.le_of_ble_eq_true rfl) dX4_ofMatch_116 ⟨by decide, by decide⟩ (fun v μ' hp => ?_)
      obtain ⟨rfl, hm9⟩ := hp
      replace hm9 := hm9.symm
      subst hm9
      refine aw_st (st' := [.int (if k7 % 2 = 0 then S.t 1 else S.t 2)]) rfl ?_
      refine aw_iret C hQe ?_ (by omega) (by omega) dX4_ofMatch_119
      exact ⟨by simp [omC, hb1], by rw [show omF S (ix (nI 6)) = trF S from omF_6 c_14, trF_k h7 h74], ⟨_, _, hR⟩, FrC.rf⟩
    by_cases q20_7 : k = 7
    · subst q20_7
      refine aw_tableOut C (tgt := 120) dX4_ofMatch_20 (by decide) (by decide) ?_
      refine aw_aload_n C dX4_ofMatch_120 rfl ?_
      refine aw_get C f31 hR.mn rfl dX4_ofMatch_121 ?_
      refine aw_get C f248 hR.mt rfl dX4_ofMatch_124 ?_
      refine aw_if_eq C (tgt := 134) dX4_ofMatch_127 (by decide) (fun c_127 => ?_) (fun c_127 => ?_)
      · refine aw_iconst C (v := 0) (by decide) dX4_ofMatch_134 ?_
        refine aw_iret C hQe ?_ (by omega) (by omega) dX4_ofMatch_135
        exact ⟨by simp [omC, hb1], by rw [show omF S (ix (nI 7)) = S.t 8 from omF_7 c_14]; exact congrArg (fun z => some (Value.int z)) (c_127 : S.t 8 = 0).symm, ⟨_, _, hR⟩, FrC.rf⟩
      · refine aw_iconst C (v := 1) (by decide) dX4_ofMatch_130 ?_
        refine aw_goto C (tgt := 135) dX4_ofMatch_131 (by decide) ?_
        refine aw_iret C hQe ?_ (by omega) (by omega) dX4_ofMatch_135
        exact ⟨by simp [omC, hb1], by rw [show omF S (ix (nI 7)) = S.t 8 from omF_7 c_14]; exact congrArg (fun z => some (Value.int z)) (h8.resolve_left c_127).1.symm, ⟨_, _, hR⟩, FrC.rf⟩
    exact absurd hk (by omega)
  · refine aw_iconst C (v := (-1)) (by decide) dX4_ofMatch_17 ?_
    refine aw_iret C hQe ?_ (by omega) (by omega) dX4_ofMatch_18
    exact ⟨by simp [omC, hb1], by rw [omF_off c_14], ⟨_, _, hR⟩, FrC.rf⟩
set_option maxRecDepth 100000 in
set_option maxHeartbeats 4000000 in
theorem k_X4_winner (hl9 : l.stackTraces = false) (B : Base s0) {μ : mu} {L : Nat → Nat → Nat} {S : SS} (h0 : RX g L S μ) (hI : Iv S)  : Cy l yX4_winner wsX4_winner (rmOf 7 0 0 130) s0 D (tyL g) [.ref (L 0 0)] μ 0 0 (fun v μ' => (0 : Nat) = 0 ∧ v = some (.int (S.c 14)) ∧ RX g L S μ' ∧ FrC L μ μ') (fun E μ' => px9 [] (0 : Nat) E ∧ RX g L S μ' ∧ FrC L μ μ') := by
  refine Cy.of (cc := cX4_winner) (own := RX4) (maxL := 1) (ret := (some .int)) (by decide) rfl rfl (Nat.le_of_ble_eq_true rfl) ?_
  intro p e s m args below meth c Q C hE hnt hQ hQe
  obtain ⟨fh, fv, hR⟩ := h0
  have in_RX4 : ∀ w ∈ u_ws RX4 TX4 16, w ∈ wsX4_winner := by decide +kernel
  have f35 : FL wsX4_winner RX4 35 6 "ArrowField" RX4 TX4 16 14 := ⟨in_RX4, rfl, by decide, by decide +kernel, Or.inl rfl⟩
  refine aw_aload_n C dX4_winner_0 rfl ?_
  refine aw_get C f35 hR.mn rfl dX4_winner_1 ?_
  refine aw_iret C hQe ?_ (by omega) (by omega) dX4_winner_4
  exact ⟨rfl, rfl, ⟨_, _, hR⟩, FrC.rf⟩
set_option maxRecDepth 100000 in
set_option maxHeartbeats 4000000 in
theorem k_X4_wouldHit (hl9 : l.stackTraces = false) (B : Base s0) {μ : mu} {L : Nat → Nat → Nat} {S : SS} (h0 : RX g L S μ) (hI : Iv S) {x w b : Int32} : Cy l yX4_wouldHit wsX4_wouldHit (rmOf 8 3 18 150) s0 D (tyL g) [.ref (L 0 0), .int x, .int w, .int b] μ 3 18 (fun v μ' => whC S x w = 0 ∧ v = some (.double (whF S (ix x) w b)) ∧ RX g L S μ' ∧ FrC L μ μ') (fun E μ' => px9 [IOB, IAE, ISE] (whC S x w) E ∧ RX g L S μ' ∧ FrC L μ μ') := by
  refine Cy.of (cc := cX4_wouldHit) (own := RX4) (maxL := 5) (ret := (some .double)) (by decide) rfl rfl (Nat.le_of_ble_eq_true rfl) ?_
  intro p e s m args below meth c Q C hE hnt hQ hQe
  obtain ⟨fh, fv, hR⟩ := h0
  have in_RX4 : ∀ w ∈ u_ws RX4 TX4 16, w ∈ wsX4_wouldHit := by decide +kernel
  have in_RX1 : ∀ w ∈ u_ws RX1 TX1 2, w ∈ wsX4_wouldHit := by decide +kernel
  have f41 : FL wsX4_wouldHit RX4 41 6 "ArrowField" RX4 TX4 16 15 := ⟨in_RX4, rfl, by decide, by decide +kernel, Or.inl rfl⟩
  have f21 : FL wsX4_wouldHit RX4 21 6 "ArrowField" RX4 TX4 16 4 := ⟨in_RX4, rfl, by decide, by decide +kernel, Or.inl rfl⟩
  have f115 : FL wsX4_wouldHit RX4 115 6 "ArrowField" RX4 TX4 16 5 := ⟨in_RX4, rfl, by decide, by decide +kernel, Or.inl rfl⟩
  have f254 : FL wsX4_wouldHit RX4 254 3 "ArrowField$Flight" RX1 TX1 2 0 := ⟨in_RX1, rfl, by decide, by decide +kernel, Or.inl rfl⟩
  have f251 : FL wsX4_wouldHit RX4 251 3 "ArrowField$Flight" RX1 TX1 2 1 := ⟨in_RX1, rfl, by decide, by decide +kernel, Or.inl rfl⟩
  refine aw_aload_n C dX4_wouldHit_0 rfl ?_
  refine aw_iload_n C dX4_wouldHit_1 rfl ?_
  refine ax_callV (n := 1) C hE hQ hnt (ci := 6) (q := (RX4, TX4, 16)) (k_X4_archerNumbered (x := x) hl9 B ⟨_, _, hR⟩ hI) gX4_wouldHit_X4_archerNumbered rfl ⟨rfl, rfl⟩ (by decide +kernel) ⟨by decide, by decide⟩ rfl rfl hR.mn rfl (Nat.le_of_ble_eq_true rfl) dX4_wouldHit_2 ⟨by decide, by decide⟩ ⟨by decide, by decide⟩ (fun E9 μ9 hp => by obtain ⟨rfl, hn, rfl⟩ := hp; exact ⟨⟨by simp [whC, hn], by simp [whC, hn]⟩, ⟨_, _, hR⟩, FrC.rf⟩) (fun v μ' hp => ?_)
  obtain ⟨hb1, ⟨j, hj, rfl, rfl⟩, hm9⟩ := hp
  replace hm9 := hm9.symm
  subst hm9
  refine aw_st (st' := [.ref (L 5 j)]) rfl ?_
  have hj6 : j < 6 := Nat.lt_of_lt_of_le hj hI.A6
  refine aw_astore C dX4_wouldHit_5 (by decide) ?_
  refine aw_iload_n C dX4_wouldHit_7 rfl ?_
  refine aw_iconst C (v := 0) (by decide) dX4_wouldHit_8 ?_
  refine aw_bipush C (v := 127) (by decide) dX4_wouldHit_9 ?_
  refine ax_callS (n := 3) C hE hQ hnt (k_X4_needBetween (x := w) (lo := 0) (hi := 127) hl9 B) gX4_wouldHit_X4_needBetween rfl ⟨rfl, rfl⟩ (by decide +kernel) ⟨by decide, by decide⟩ rfl rfl (Nat.le_of_ble_eq_true rfl) dX4_wouldHit_11 ⟨by decide, by decide⟩ ⟨by decide, by decide⟩ (fun E9 μ9 hp => by obtain ⟨rfl, hn, rfl⟩ := hp; exact ⟨⟨by simp [whC, hb1, hn], by simp [whC, hb1, hn]⟩, ⟨_, _, hR⟩, FrC.rf⟩) (fun v μ' hp => ?_)
  obtain ⟨hb2, rfl, hm9⟩ := hp
  replace hm9 := hm9.symm
  subst hm9
  refine aw_st (st' := []) rfl ?_
  refine aw_aload_n C dX4_wouldHit_14 rfl ?_
  refine aw_get C f41 hR.mn rfl dX4_wouldHit_15 ?_
  refine aw_aload C dX4_wouldHit_18 rfl ?_
  refine aw_aload_n C dX4_wouldHit_20 rfl ?_
  refine aw_aload C dX4_wouldHit_21 rfl ?_
  refine ax_callV (n := 1) C hE hQ hnt (ci := 6) (q := (RX4, TX4, 16)) (k_X4_quiverOf hl9 B ⟨_, _, hR⟩ hI hj) gX4_wouldHit_X4_quiverOf rfl ⟨rfl, rfl⟩ (by decide +kernel) ⟨by decide, by decide⟩ rfl rfl hR.mn rfl (Nat.le_of_ble_eq_true rfl) dX4_wouldHit_23 ⟨by decide, by decide⟩ ⟨by decide, by decide⟩ (fun E9 μ9 hp => by obtain ⟨rfl, hn, rfl⟩ := hp; have ej6 : ix (nI j) = j := ix_nI hj6 (by decide); exact ⟨⟨by simp [whC, hb1, hb2, hn, ej6], by simp [whC, hb1, hb2, hn, ej6]⟩, ⟨_, _, hR⟩, FrC.rf⟩) (fun v μ' hp => ?_)
  obtain ⟨⟨u, hu, huq, rfl⟩, hm9⟩ := hp
  replace hm9 := hm9.symm
  subst hm9
  have hu6 : u < 6 := Nat.lt_of_lt_of_le hu hI.Q6
  have ej6 : ix (nI j) = j := ix_nI hj6 (by decide)
  have eu6 : ix (nI u) = u := ix_nI hu6 (by decide)
  have nuq : ¬ S.A j 5 = -1 := by rw [huq]; exact nI_m1 (by omega)
  refine aw_st (st' := [.ref (L 6 u), .ref (L 5 j), .ref (L 4 0)]) rfl ?_
  refine aw_iload_n C dX4_wouldHit_26 rfl ?_
  refine aw_aload_n C dX4_wouldHit_27 rfl ?_
  refine aw_get C f21 hR.mn rfl dX4_wouldHit_28 ?_
  refine aw_aload_n C dX4_wouldHit_31 rfl ?_
  refine aw_get C f115 hR.mn rfl dX4_wouldHit_32 ?_
  refine aw_callV (n := 5) C hE (ci := 3) (q := (RX1, TX1, 2)) (k_flyS (S := S) (j := j) (n := u) (x := w) (di := (S.c 4)) B hR hI hj hu hI.2.1.2) gX4_wouldHit_X1_fly rfl ⟨rfl, rfl⟩ (by decide +kernel) ⟨by decide, by decide⟩ rfl rfl hR.fl rfl (Nat.le_of_ble_eq_true rfl) dX4_wouldHit_35 ⟨by decide, by decide⟩ (fun v μ' hp => ?_)
  obtain ⟨rfl, hm9⟩ := hp
  replace hm9 := hm9.symm
  subst hm9
  refine aw_st (st' := []) rfl ?_
  refine aw_iload_n C dX4_wouldHit_38 rfl ?_
  refine aw_if_eq C (tgt := 52) dX4_wouldHit_39 (by decide) (fun c_39 => ?_) (fun c_39 => ?_)
  · refine aw_aload_n C dX4_wouldHit_52 rfl ?_
    refine aw_get C f41 (mp_k hR.mn (hR.li.ne (v0 (by decide)) (v0 (by decide)) (Or.inl (by decide)))) rfl dX4_wouldHit_53 ?_
    refine aw_get C f254 mp_s rfl dX4_wouldHit_56 ?_
    refine aw_dret C hQe ?_ (by omega) (by omega) dX4_wouldHit_59
    have e9 : ix (S.A j 5) = u := by rw [huq]; exact eu6
    rw [show ix (nI j) = j from ix_nI hj6 (by decide)]
    exact ⟨by simp [whC, hb1, hb2, ej6, nuq], by unfold whF; rw [e9, if_pos c_39], ⟨_, _, hR.setFl _ _⟩, (FrC.rf.mp (v0 (by decide)))⟩
  · refine aw_aload_n C dX4_wouldHit_42 rfl ?_
    refine aw_get C f41 (mp_k hR.mn (hR.li.ne (v0 (by decide)) (v0 (by decide)) (Or.inl (by decide)))) rfl dX4_wouldHit_43 ?_
    refine aw_get C f251 mp_s rfl dX4_wouldHit_46 ?_
    refine aw_goto C (tgt := 59) dX4_wouldHit_49 (by decide) ?_
    refine aw_dret C hQe ?_ (by omega) (by omega) dX4_wouldHit_59
    have e9 : ix (S.A j 5) = u := by rw [huq]; exact eu6
    rw [show ix (nI j) = j from ix_nI hj6 (by decide)]
    exact ⟨by simp [whC, hb1, hb2, ej6, nuq], by unfold whF; rw [e9, if_neg c_39], ⟨_, _, hR.setFl _ _⟩, (FrC.rf.mp (v0 (by decide)))⟩
set_option maxRecDepth 100000 in
set_option maxHeartbeats 4000000 in
theorem k_X4_wouldScore (hl9 : l.stackTraces = false) (B : Base s0) {μ : mu} {L : Nat → Nat → Nat} {S : SS} (h0 : RX g L S μ) (hI : Iv S) {x : Int32} : Cy l yX4_wouldScore wsX4_wouldScore (rmOf 8 2 12 150) s0 D (tyL g) [.ref (L 0 0), .int x] μ 2 12 (fun v μ' => rdC S x = 0 ∧ v = some (.int (wsF S (ix x))) ∧ RX g L S μ' ∧ FrC L μ μ') (fun E μ' => px9 [IOB, ISE] (rdC S x) E ∧ RX g L S μ' ∧ FrC L μ μ') := by
  refine Cy.of (cc := cX4_wouldScore) (own := RX4) (maxL := 3) (ret := (some .int)) (by decide) rfl rfl (Nat.le_of_ble_eq_true rfl) ?_
  intro p e s m args below meth c Q C hE hnt hQ hQe
  obtain ⟨fh, fv, hR⟩ := h0
  have in_RX4 : ∀ w ∈ u_ws RX4 TX4 16, w ∈ wsX4_wouldScore := by decide +kernel
  have in_RX0 : ∀ w ∈ u_ws RX0 TX0 12, w ∈ wsX4_wouldScore := by decide +kernel
  have f41 : FL wsX4_wouldScore RX4 41 6 "ArrowField" RX4 TX4 16 15 := ⟨in_RX4, rfl, by decide, by decide +kernel, Or.inl rfl⟩
  have f99 : FL wsX4_wouldScore RX4 99 2 "ArrowField$Archer" RX0 TX0 12 2 := ⟨in_RX0, rfl, by decide, by decide +kernel, Or.inl rfl⟩
  have f21 : FL wsX4_wouldScore RX4 21 6 "ArrowField" RX4 TX4 16 4 := ⟨in_RX4, rfl, by decide, by decide +kernel, Or.inl rfl⟩
  have f115 : FL wsX4_wouldScore RX4 115 6 "ArrowField" RX4 TX4 16 5 := ⟨in_RX4, rfl, by decide, by decide +kernel, Or.inl rfl⟩
  have f25 : FL wsX4_wouldScore RX4 25 6 "ArrowField" RX4 TX4 16 6 := ⟨in_RX4, rfl, by decide, by decide +kernel, Or.inl rfl⟩
  refine aw_aload_n C dX4_wouldScore_0 rfl ?_
  refine aw_iload_n C dX4_wouldScore_1 rfl ?_
  refine ax_callV (n := 1) C hE hQ hnt (ci := 6) (q := (RX4, TX4, 16)) (k_X4_archerNumbered (x := x) hl9 B ⟨_, _, hR⟩ hI) gX4_wouldScore_X4_archerNumbered rfl ⟨rfl, rfl⟩ (by decide +kernel) ⟨by decide, by decide⟩ rfl rfl hR.mn rfl (Nat.le_of_ble_eq_true rfl) dX4_wouldScore_2 ⟨by decide, by decide⟩ ⟨by decide, by decide⟩ (fun E9 μ9 hp => by obtain ⟨rfl, hn, rfl⟩ := hp; exact ⟨⟨by simp [rdC, hn], by simp [rdC, hn]⟩, ⟨_, _, hR⟩, FrC.rf⟩) (fun v μ' hp => ?_)
  obtain ⟨hb1, ⟨j, hj, rfl, rfl⟩, hm9⟩ := hp
  replace hm9 := hm9.symm
  subst hm9
  refine aw_st (st' := [.ref (L 5 j)]) rfl ?_
  have hj6 : j < 6 := Nat.lt_of_lt_of_le hj hI.A6
  refine aw_astore_n C dX4_wouldScore_5 (by decide) ?_
  refine aw_aload_n C dX4_wouldScore_6 rfl ?_
  refine aw_get C f41 hR.mn rfl dX4_wouldScore_7 ?_
  refine aw_aload_n C dX4_wouldScore_10 rfl ?_
  refine aw_aload_n C dX4_wouldScore_11 rfl ?_
  refine aw_aload_n C dX4_wouldScore_12 rfl ?_
  refine ax_callV (n := 1) C hE hQ hnt (ci := 6) (q := (RX4, TX4, 16)) (k_X4_quiverOf hl9 B ⟨_, _, hR⟩ hI hj) gX4_wouldScore_X4_quiverOf rfl ⟨rfl, rfl⟩ (by decide +kernel) ⟨by decide, by decide⟩ rfl rfl hR.mn rfl (Nat.le_of_ble_eq_true rfl) dX4_wouldScore_13 ⟨by decide, by decide⟩ ⟨by decide, by decide⟩ (fun E9 μ9 hp => by obtain ⟨rfl, hn, rfl⟩ := hp; have ej6 : ix (nI j) = j := ix_nI hj6 (by decide); exact ⟨⟨by simp [rdC, hb1, hn, ej6], by simp [rdC, hb1, hn, ej6]⟩, ⟨_, _, hR⟩, FrC.rf⟩) (fun v μ' hp => ?_)
  obtain ⟨⟨u, hu, huq, rfl⟩, hm9⟩ := hp
  replace hm9 := hm9.symm
  subst hm9
  have hu6 : u < 6 := Nat.lt_of_lt_of_le hu hI.Q6
  have ej6 : ix (nI j) = j := ix_nI hj6 (by decide)
  have eu6 : ix (nI u) = u := ix_nI hu6 (by decide)
  have nuq : ¬ S.A j 5 = -1 := by rw [huq]; exact nI_m1 (by omega)
  refine aw_st (st' := [.ref (L 6 u), .ref (L 5 j), .ref (L 4 0)]) rfl ?_
  refine aw_aload_n C dX4_wouldScore_16 rfl ?_
  refine aw_get C f99 (hR.ar hj6) rfl dX4_wouldScore_17 ?_
  refine aw_aload_n C dX4_wouldScore_20 rfl ?_
  refine aw_get C f21 hR.mn rfl dX4_wouldScore_21 ?_
  refine aw_aload_n C dX4_wouldScore_24 rfl ?_
  refine aw_get C f115 hR.mn rfl dX4_wouldScore_25 ?_
  refine aw_callV (n := 5) C hE (ci := 3) (q := (RX1, TX1, 2)) (k_flyS (S := S) (j := j) (n := u) (x := (S.A j 2)) (di := (S.c 4)) B hR hI hj hu hI.2.1.2) gX4_wouldScore_X1_fly rfl ⟨rfl, rfl⟩ (by decide +kernel) ⟨by decide, by decide⟩ rfl rfl hR.fl rfl (Nat.le_of_ble_eq_true rfl) dX4_wouldScore_28 ⟨by decide, by decide⟩ (fun v μ' hp => ?_)
  obtain ⟨rfl, hm9⟩ := hp
  replace hm9 := hm9.symm
  subst hm9
  refine aw_st (st' := []) rfl ?_
  refine aw_aload_n C dX4_wouldScore_31 rfl ?_
  refine aw_get C f41 (mp_k hR.mn (hR.li.ne (v0 (by decide)) (v0 (by decide)) (Or.inl (by decide)))) rfl dX4_wouldScore_32 ?_
  refine aw_aload_n C dX4_wouldScore_35 rfl ?_
  refine aw_get C f25 (mp_k hR.mn (hR.li.ne (v0 (by decide)) (v0 (by decide)) (Or.inl (by decide)))) rfl dX4_wouldScore_36 ?_
  refine aw_callV (n := 1) C hE (ci := 3) (q := (RX1, TX1, 2)) (k_X1_worth B mp_s ((fl_ok hI hj hu _ hI.2.1.2).1.up (by decide)) ((fl_ok hI hj hu _ hI.2.1.2).2.up (by decide))) gX4_wouldScore_X1_worth rfl ⟨rfl, rfl⟩ (by decide +kernel) ⟨by decide, by decide⟩ rfl rfl mp_s rfl (Nat.le_of_ble_eq_true rfl) dX4_wouldScore_39 ⟨by decide, by decide⟩ (fun v μ' hp => ?_)
  obtain ⟨rfl, hm9⟩ := hp
  replace hm9 := hm9.symm
  subst hm9
  refine aw_st (st' := [.int (wth (S.c 6) (farF (flH S j u (S.A j 2) (S.c 4)) (flV S j u (S.A j 2) (S.c 4))))]) rfl ?_
  refine aw_iret C hQe ?_ (by omega) (by omega) dX4_wouldScore_42
  have e9 : ix (S.A j 5) = u := by rw [huq]; exact eu6
  rw [show ix (nI j) = j from ix_nI hj6 (by decide)]
  exact ⟨by simp [rdC, hb1, ej6, nuq], by unfold wsF; rw [e9], ⟨_, _, hR.setFl _ _⟩, (FrC.rf.mp (v0 (by decide)))⟩
theorem reN_y {S : SS} {j k : Nat} (h : 0 ≤ dk (flV S j (ix (S.A j 5)) 127 (nI (k + 10)))) : reN S j (k + 1) = nI (k + 10) := if_pos h
theorem reN_n {S : SS} {j k : Nat} (h : ¬ 0 ≤ dk (flV S j (ix (S.A j 5)) 127 (nI (k + 10)))) : reN S j (k + 1) = reN S j k := if_neg h
theorem amN_lt (f : Nat → Nat) : ∀ n, amN f n ≤ n
  | 0 => Nat.le_refl _
  | n + 1 => by
    have h := amN_lt f n
    unfold amN
    split <;> omega
set_option maxRecDepth 100000 in
set_option maxHeartbeats 4000000 in
theorem k_X4_mark (hl9 : l.stackTraces = false) (B : Base s0) {μ : mu} {L : Nat → Nat → Nat} {S : SS} (h0 : RX g L S μ) (hI : Iv S) {x : Int32} : Cy l yX4_mark wsX4_mark (rmOf 8 2 12 150) s0 D (tyL g) [.ref (L 0 0), .int x] μ 2 12 (fun v μ' => rdC S x = 0 ∧ v = some (.int (mkF S (ix x))) ∧ RX g L S μ' ∧ FrC L μ μ') (fun E μ' => px9 [IOB, ISE] (rdC S x) E ∧ RX g L S μ' ∧ FrC L μ μ') := by
  refine Cy.of (cc := cX4_mark) (own := RX4) (maxL := 10) (ret := (some .int)) (by decide) rfl rfl (Nat.le_of_ble_eq_true rfl) ?_
  intro p e s m args below meth c Q C hE hnt hQ hQe
  obtain ⟨fh, fv, hR⟩ := h0
  have in_RX4 : ∀ w ∈ u_ws RX4 TX4 16, w ∈ wsX4_mark := by decide +kernel
  have in_RX1 : ∀ w ∈ u_ws RX1 TX1 2, w ∈ wsX4_mark := by decide +kernel
  have f41 : FL wsX4_mark RX4 41 6 "ArrowField" RX4 TX4 16 15 := ⟨in_RX4, rfl, by decide, by decide +kernel, Or.inl rfl⟩
  have f21 : FL wsX4_mark RX4 21 6 "ArrowField" RX4 TX4 16 4 := ⟨in_RX4, rfl, by decide, by decide +kernel, Or.inl rfl⟩
  have f115 : FL wsX4_mark RX4 115 6 "ArrowField" RX4 TX4 16 5 := ⟨in_RX4, rfl, by decide, by decide +kernel, Or.inl rfl⟩
  have f251 : FL wsX4_mark RX4 251 3 "ArrowField$Flight" RX1 TX1 2 1 := ⟨in_RX1, rfl, by decide, by decide +kernel, Or.inl rfl⟩
  refine aw_aload_n C dX4_mark_0 rfl ?_
  refine aw_iload_n C dX4_mark_1 rfl ?_
  refine ax_callV (n := 1) C hE hQ hnt (ci := 6) (q := (RX4, TX4, 16)) (k_X4_archerNumbered (x := x) hl9 B ⟨_, _, hR⟩ hI) gX4_mark_X4_archerNumbered rfl ⟨rfl, rfl⟩ (by decide +kernel) ⟨by decide, by decide⟩ rfl rfl hR.mn rfl (Nat.le_of_ble_eq_true rfl) dX4_mark_2 ⟨by decide, by decide⟩ ⟨by decide, by decide⟩ (fun E9 μ9 hp => by obtain ⟨rfl, hn, rfl⟩ := hp; exact ⟨⟨by simp [rdC, hn], by simp [rdC, hn]⟩, ⟨_, _, hR⟩, FrC.rf⟩) (fun v μ' hp => ?_)
  obtain ⟨hb1, ⟨j, hj, rfl, rfl⟩, hm9⟩ := hp
  replace hm9 := hm9.symm
  subst hm9
  refine aw_st (st' := [.ref (L 5 j)]) rfl ?_
  have hj6 : j < 6 := Nat.lt_of_lt_of_le hj hI.A6
  refine aw_astore_n C dX4_mark_5 (by decide) ?_
  refine aw_aload_n C dX4_mark_6 rfl ?_
  refine aw_aload_n C dX4_mark_7 rfl ?_
  refine ax_callV (n := 1) C hE hQ hnt (ci := 6) (q := (RX4, TX4, 16)) (k_X4_quiverOf hl9 B ⟨_, _, hR⟩ hI hj) gX4_mark_X4_quiverOf rfl ⟨rfl, rfl⟩ (by decide +kernel) ⟨by decide, by decide⟩ rfl rfl hR.mn rfl (Nat.le_of_ble_eq_true rfl) dX4_mark_8 ⟨by decide, by decide⟩ ⟨by decide, by decide⟩ (fun E9 μ9 hp => by obtain ⟨rfl, hn, rfl⟩ := hp; have ej6 : ix (nI j) = j := ix_nI hj6 (by decide); exact ⟨⟨by simp [rdC, hb1, hn, ej6], by simp [rdC, hb1, hn, ej6]⟩, ⟨_, _, hR⟩, FrC.rf⟩) (fun v μ' hp => ?_)
  obtain ⟨⟨u, hu, huq, rfl⟩, hm9⟩ := hp
  replace hm9 := hm9.symm
  subst hm9
  have hu6 : u < 6 := Nat.lt_of_lt_of_le hu hI.Q6
  have ej6 : ix (nI j) = j := ix_nI hj6 (by decide)
  have eu6 : ix (nI u) = u := ix_nI hu6 (by decide)
  have nuq : ¬ S.A j 5 = -1 := by rw [huq]; exact nI_m1 (by omega)
  refine aw_st (st' := [.ref (L 6 u)]) rfl ?_
  refine aw_astore_n C dX4_mark_11 (by decide) ?_
  refine aw_iconst C (v := (-1)) (by decide) dX4_mark_12 ?_
  refine aw_istore C dX4_mark_13 (by decide) ?_
  refine aw_dconst0 C dX4_mark_15 ?_
  refine aw_dstore C dX4_mark_16 (by decide) ?_
  refine aw_iconst C (v := 0) (by decide) dX4_mark_18 ?_
  refine aw_istore C dX4_mark_19 (by decide) ?_
  refine aw_mu (mp_id hR.fl).symm ?_
  refine aw_lv (lv' := [(0, .ref (L 0 0)), (1, .int (nI j)), (2, .ref (L 5 j)), (3, .ref (L 6 u)), (4, .int (-1)), (5, .double FP.dconst0), (7, .int 0)]) ⟨rfl, rfl, rfl, rfl, rfl, rfl, rfl, trivial⟩ ?_
  have loop21 : ∀ (n : Nat) (i : Nat) (xi : Int32) (b : Int32) (nb : UInt64) (xh : UInt64) (xv : UInt64), 128 - i = n → xi = nI i → i ≤ 128 → (i = 0 ∧ b = -1) ∨ (0 < i ∧ b = nI (amN (fun k => ab (flV S j u (nI k) (S.c 4))) i) ∧ Nn nb ∧ dk nb = (ab (flV S j u (nI (amN (fun k => ab (flV S j u (nI k) (S.c 4))) i)) (S.c 4)) : Int)) → Aw p l e (rmOf 8 2 12 150) s m args below meth c Q s0.heap.size D 10 (mp μ (L 4 0) (eFl xh xv)) (0 + 1 + 1) (0 + 6 + 6) 21 [(0, .ref (L 0 0)), (1, .int (nI j)), (2, .ref (L 5 j)), (3, .ref (L 6 u)), (4, .int b), (5, .double nb), (7, .int xi)] [] := by
    intro n
    induction n using Nat.strongRecOn with
    | _ n ih =>
      intro i xi b nb xh xv hn hx hk hs
      refine aw_iload C dX4_mark_21 rfl ?_
      refine aw_bipush C (v := 127) (by decide) dX4_mark_23 ?_
      refine aw_icmp_gt C (tgt := 87) dX4_mark_25 (by decide) (fun c_25 => ?_) (fun c_25 => ?_)
      · refine aw_iload C dX4_mark_87 rfl ?_
        refine aw_iret C hQe ?_ (by omega) (by omega) dX4_mark_89
        have h9 : nI 127 < xi := c_25
        rw [hx, nI_ltI (by decide) (by omega)] at h9
        have h8 : i = 128 := by omega
        subst h8
        have e9 : ix (S.A j 5) = u := by rw [huq]; exact eu6
        rw [show ix (nI j) = j from ix_nI hj6 (by decide)]
        exact ⟨by simp [rdC, hb1, ej6, nuq], by unfold mkF; rw [e9, ((hs.resolve_left (fun q => absurd q.1 (by decide))).2.1)], ⟨_, _, hR.setFl _ _⟩, (FrC.rf.mp (v0 (by decide)))⟩
      · have hi : i < 128 := by have h9 : ¬ nI 127 < xi := c_25; rw [hx, nI_ltI (by decide) (by omega)] at h9; omega
        subst hx
        have nv : Nn (flV S j u (nI i) (S.c 4)) := (fl_ok hI hj hu _ hI.2.1.2).2.nn (by decide)
        refine aw_aload_n C dX4_mark_28 rfl ?_
        refine aw_get C f41 (hR.setFl xh xv).mn rfl dX4_mark_29 ?_
        refine aw_aload_n C dX4_mark_32 rfl ?_
        refine aw_aload_n C dX4_mark_33 rfl ?_
        refine aw_iload C dX4_mark_34 rfl ?_
        refine aw_aload_n C dX4_mark_36 rfl ?_
        refine aw_get C f21 (hR.setFl xh xv).mn rfl dX4_mark_37 ?_
        refine aw_aload_n C dX4_mark_40 rfl ?_
        refine aw_get C f115 (hR.setFl xh xv).mn rfl dX4_mark_41 ?_
        refine aw_callV (n := 5) C hE (ci := 3) (q := (RX1, TX1, 2)) (k_flyS (S := S) (j := j) (n := u) (x := (nI i)) (di := (S.c 4)) B (hR.setFl xh xv) hI hj hu hI.2.1.2) gX4_mark_X1_fly rfl ⟨rfl, rfl⟩ (by decide +kernel) ⟨by decide, by decide⟩ rfl rfl (hR.setFl xh xv).fl rfl (Nat.le_of_ble_eq_true rfl) dX4_mark_44 ⟨by decide, by decide⟩ (fun v μ' hp => ?_)
        obtain ⟨rfl, hm9⟩ := hp
        replace hm9 := hm9.symm
        subst hm9
        refine aw_st (st' := []) rfl ?_
        refine aw_aload_n C dX4_mark_47 rfl ?_
        refine aw_get C f41 (mp_k (hR.setFl xh xv).mn (hR.li.ne (v0 (by decide)) (v0 (by decide)) (Or.inl (by decide)))) rfl dX4_mark_48 ?_
        refine aw_get C f251 mp_s rfl dX4_mark_51 ?_
        refine aw_callS (n := 1) C hE (k_X4_size (x := (flV S j u (nI i) (S.c 4))) B nv) gX4_mark_X4_size rfl ⟨rfl, rfl⟩ (by decide +kernel) ⟨by decide, by decide⟩ rfl rfl (Nat.le_of_ble_eq_true rfl) dX4_mark_54 ⟨by decide, by decide⟩ (fun v μ' hp => ?_)
        obtain ⟨rfl, hm9⟩ := hp
        replace hm9 := hm9.symm
        subst hm9
        refine aw_st (st' := [.double (szF (flV S j u (nI i) (S.c 4)))]) rfl ?_
        refine aw_dstore C dX4_mark_57 (by decide) ?_
        refine aw_iload C dX4_mark_59 rfl ?_
        refine aw_iconst C (v := (-1)) (by decide) dX4_mark_61 ?_
        refine aw_icmp_eq C (tgt := 73) dX4_mark_62 (by decide) (fun c_62 => ?_) (fun c_62 => ?_)
        · refine aw_iload C dX4_mark_73 rfl ?_
          refine aw_istore C dX4_mark_75 (by decide) ?_
          refine aw_dload C dX4_mark_77 rfl ?_
          refine aw_dstore C dX4_mark_79 (by decide) ?_
          refine aw_iinc C dX4_mark_81 rfl (by decide) ?_
          refine aw_goto C (tgt := 21) dX4_mark_84 (by decide) ?_
          have hs9 : 0 < i + 1 ∧ nI i = nI (amN (fun k => ab (flV S j u (nI k) (S.c 4))) (i + 1)) ∧ Nn (szF (flV S j u (nI i) (S.c 4))) ∧ dk (szF (flV S j u (nI i) (S.c 4))) = (ab (flV S j u (nI (amN (fun k => ab (flV S j u (nI k) (S.c 4))) (i + 1))) (S.c 4)) : Int) := by
            have h0 : i = 0 := by
              rcases hs with hs | hs
              · exact hs.1
              · exact absurd (hs.2.1.symm.trans c_62) (nI_m1 (by have := amN_lt (fun k => ab (flV S j u (nI k) (S.c 4))) i; omega))
            subst h0
            exact ⟨by omega, by rw [amN_1], szF_nn nv, by rw [amN_1, szF_key nv]⟩
          refine aw_mu mp_mp ?_
          refine aw_lv (lv' := [(0, .ref (L 0 0)), (1, .int (nI j)), (2, .ref (L 5 j)), (3, .ref (L 6 u)), (4, .int (nI i)), (5, .double (szF (flV S j u (nI i) (S.c 4)))), (7, .int (nI i + Int32.ofInt (1)))]) ⟨rfl, rfl, rfl, rfl, rfl, rfl, rfl, trivial⟩ ?_
          exact ih _ (by omega) (i + 1) (nI i + Int32.ofInt (1)) (nI i) (szF (flV S j u (nI i) (S.c 4))) (flH S j u (nI i) (S.c 4)) (flV S j u (nI i) (S.c 4)) rfl (nI_inc i) (by omega) (Or.inr hs9)
        · refine aw_dload C dX4_mark_65 rfl ?_
          refine aw_dload C dX4_mark_67 rfl ?_
          refine aw_dcmp C dX4_mark_69 ?_
          refine aw_if_ge C (tgt := 81) dX4_mark_70 (by decide) (fun c_70 => ?_) (fun c_70 => ?_)
          · refine aw_iinc C dX4_mark_81 rfl (by decide) ?_
            refine aw_goto C (tgt := 21) dX4_mark_84 (by decide) ?_
            have hs9 : 0 < i + 1 ∧ b = nI (amN (fun k => ab (flV S j u (nI k) (S.c 4))) (i + 1)) ∧ Nn nb ∧ dk nb = (ab (flV S j u (nI (amN (fun k => ab (flV S j u (nI k) (S.c 4))) (i + 1))) (S.c 4)) : Int) := by
              obtain ⟨h1, h2, h3, h4⟩ := hs.resolve_left (fun q => c_62 q.2)
              rw [kv_ge0 (szF_nn nv) h3, szF_key nv, h4] at c_70
              have h5 : amN (fun k => ab (flV S j u (nI k) (S.c 4))) (i + 1) = amN (fun k => ab (flV S j u (nI k) (S.c 4))) i := amN_n (by omega)
              rw [h5]
              exact ⟨by omega, h2, h3, h4⟩
            refine aw_mu mp_mp ?_
            refine aw_lv (lv' := [(0, .ref (L 0 0)), (1, .int (nI j)), (2, .ref (L 5 j)), (3, .ref (L 6 u)), (4, .int b), (5, .double nb), (7, .int (nI i + Int32.ofInt (1)))]) ⟨rfl, rfl, rfl, rfl, rfl, rfl, rfl, trivial⟩ ?_
            exact ih _ (by omega) (i + 1) (nI i + Int32.ofInt (1)) b nb (flH S j u (nI i) (S.c 4)) (flV S j u (nI i) (S.c 4)) rfl (nI_inc i) (by omega) (Or.inr hs9)
          · refine aw_iload C dX4_mark_73 rfl ?_
            refine aw_istore C dX4_mark_75 (by decide) ?_
            refine aw_dload C dX4_mark_77 rfl ?_
            refine aw_dstore C dX4_mark_79 (by decide) ?_
            refine aw_iinc C dX4_mark_81 rfl (by decide) ?_
            refine aw_goto C (tgt := 21) dX4_mark_84 (by decide) ?_
            have hs9 : 0 < i + 1 ∧ nI i = nI (amN (fun k => ab (flV S j u (nI k) (S.c 4))) (i + 1)) ∧ Nn (szF (flV S j u (nI i) (S.c 4))) ∧ dk (szF (flV S j u (nI i) (S.c 4))) = (ab (flV S j u (nI (amN (fun k => ab (flV S j u (nI k) (S.c 4))) (i + 1))) (S.c 4)) : Int) := by
              obtain ⟨h1, h2, h3, h4⟩ := hs.resolve_left (fun q => c_62 q.2)
              rw [kv_ge0 (szF_nn nv) h3, szF_key nv, h4] at c_70
              have h5 : amN (fun k => ab (flV S j u (nI k) (S.c 4))) (i + 1) = i := amN_y (by omega)
              rw [h5]
              exact ⟨by omega, rfl, szF_nn nv, szF_key nv⟩
            refine aw_mu mp_mp ?_
            refine aw_lv (lv' := [(0, .ref (L 0 0)), (1, .int (nI j)), (2, .ref (L 5 j)), (3, .ref (L 6 u)), (4, .int (nI i)), (5, .double (szF (flV S j u (nI i) (S.c 4)))), (7, .int (nI i + Int32.ofInt (1)))]) ⟨rfl, rfl, rfl, rfl, rfl, rfl, rfl, trivial⟩ ?_
            exact ih _ (by omega) (i + 1) (nI i + Int32.ofInt (1)) (nI i) (szF (flV S j u (nI i) (S.c 4))) (flH S j u (nI i) (S.c 4)) (flV S j u (nI i) (S.c 4)) rfl (nI_inc i) (by omega) (Or.inr hs9)
  exact loop21 _ 0 0 (-1) FP.dconst0 fh fv rfl rfl (by decide) (Or.inl ⟨rfl, rfl⟩)
set_option maxRecDepth 100000 in
set_option maxHeartbeats 4000000 in
theorem k_X4_best (hl9 : l.stackTraces = false) (B : Base s0) {μ : mu} {L : Nat → Nat → Nat} {S : SS} (h0 : RX g L S μ) (hI : Iv S) {x : Int32} : Cy l yX4_best wsX4_best (rmOf 8 1 6 150) s0 D (tyL g) [.ref (L 0 0), .int x] μ 1 6 (fun v μ' => stC S x = 0 ∧ v = some (.int (beF S (ix x))) ∧ RX g L S μ' ∧ FrC L μ μ') (fun E μ' => px9 [IOB] (stC S x) E ∧ RX g L S μ' ∧ FrC L μ μ') := by
  refine Cy.of (cc := cX4_best) (own := RX4) (maxL := 10) (ret := (some .int)) (by decide) rfl rfl (Nat.le_of_ble_eq_true rfl) ?_
  intro p e s m args below meth c Q C hE hnt hQ hQe
  obtain ⟨fh, fv, hR⟩ := h0
  have in_RX4 : ∀ w ∈ u_ws RX4 TX4 16, w ∈ wsX4_best := by decide +kernel
  have in_RX0 : ∀ w ∈ u_ws RX0 TX0 12, w ∈ wsX4_best := by decide +kernel
  have in_RX1 : ∀ w ∈ u_ws RX1 TX1 2, w ∈ wsX4_best := by decide +kernel
  have f67 : FL wsX4_best RX4 67 6 "ArrowField" RX4 TX4 16 3 := ⟨in_RX4, rfl, by decide, by decide +kernel, Or.inl rfl⟩
  have f41 : FL wsX4_best RX4 41 6 "ArrowField" RX4 TX4 16 15 := ⟨in_RX4, rfl, by decide, by decide +kernel, Or.inl rfl⟩
  have f17 : FL wsX4_best RX4 17 6 "ArrowField" RX4 TX4 16 1 := ⟨in_RX4, rfl, by decide, by decide +kernel, Or.inl rfl⟩
  have f99 : FL wsX4_best RX4 99 2 "ArrowField$Archer" RX0 TX0 12 2 := ⟨in_RX0, rfl, by decide, by decide +kernel, Or.inl rfl⟩
  have f21 : FL wsX4_best RX4 21 6 "ArrowField" RX4 TX4 16 4 := ⟨in_RX4, rfl, by decide, by decide +kernel, Or.inl rfl⟩
  have f115 : FL wsX4_best RX4 115 6 "ArrowField" RX4 TX4 16 5 := ⟨in_RX4, rfl, by decide, by decide +kernel, Or.inl rfl⟩
  have f254 : FL wsX4_best RX4 254 3 "ArrowField$Flight" RX1 TX1 2 0 := ⟨in_RX1, rfl, by decide, by decide +kernel, Or.inl rfl⟩
  refine aw_aload_n C dX4_best_0 rfl ?_
  refine aw_iload_n C dX4_best_1 rfl ?_
  refine ax_callV (n := 1) C hE hQ hnt (ci := 6) (q := (RX4, TX4, 16)) (k_X4_archerNumbered (x := x) hl9 B ⟨_, _, hR⟩ hI) gX4_best_X4_archerNumbered rfl ⟨rfl, rfl⟩ (by decide +kernel) ⟨by decide, by decide⟩ rfl rfl hR.mn rfl (Nat.le_of_ble_eq_true rfl) dX4_best_2 ⟨by decide, by decide⟩ ⟨by decide, by decide⟩ (fun E9 μ9 hp => by obtain ⟨rfl, hn, rfl⟩ := hp; exact ⟨⟨by simp [stC, hn], by simp [stC, hn]⟩, ⟨_, _, hR⟩, FrC.rf⟩) (fun v μ' hp => ?_)
  obtain ⟨hb1, ⟨j, hj, rfl, rfl⟩, hm9⟩ := hp
  replace hm9 := hm9.symm
  subst hm9
  refine aw_st (st' := [.ref (L 5 j)]) rfl ?_
  have hj6 : j < 6 := Nat.lt_of_lt_of_le hj hI.A6
  refine aw_astore_n C dX4_best_5 (by decide) ?_
  refine aw_iconst C (v := (-1)) (by decide) dX4_best_6 ?_
  refine aw_istore_n C dX4_best_7 (by decide) ?_
  refine aw_dconst0 C dX4_best_8 ?_
  refine aw_dstore C dX4_best_9 (by decide) ?_
  refine aw_iconst C (v := 0) (by decide) dX4_best_11 ?_
  refine aw_istore C dX4_best_12 (by decide) ?_
  refine aw_mu (mp_id hR.fl).symm ?_
  refine aw_lv (lv' := [(0, .ref (L 0 0)), (1, .int (nI j)), (2, .ref (L 5 j)), (3, .int (-1)), (4, .double FP.dconst0), (6, .int 0)]) ⟨rfl, rfl, rfl, rfl, rfl, rfl, trivial⟩ ?_
  have loop14 : ∀ (n : Nat) (i : Nat) (xi : Int32) (b : Int32) (nb : UInt64) (xh : UInt64) (xv : UInt64), S.nQ - i = n → xi = nI i → i ≤ S.nQ → b = beN S j i ∧ (b = -1 ∨ ∃ k, k < S.nQ ∧ b = nI k ∧ Nn nb ∧ dk nb = (ab (flH S j k (S.A j 2) (S.c 4)) : Int)) → Aw p l e (rmOf 8 1 6 150) s m args below meth c Q s0.heap.size D 10 (mp μ (L 4 0) (eFl xh xv)) (0 + 1) (0 + 6) 14 [(0, .ref (L 0 0)), (1, .int (nI j)), (2, .ref (L 5 j)), (3, .int b), (4, .double nb), (6, .int xi)] [] := by
    intro n
    induction n using Nat.strongRecOn with
    | _ n ih =>
      intro i xi b nb xh xv hn hx hk hs
      refine aw_iload C dX4_best_14 rfl ?_
      refine aw_aload_n C dX4_best_16 rfl ?_
      refine aw_get C f67 (hR.setFl xh xv).mn rfl dX4_best_17 ?_
      refine aw_icmp_ge C (tgt := 108) dX4_best_20 (by decide) (fun c_20 => ?_) (fun c_20 => ?_)
      · refine aw_iload_n C dX4_best_108 rfl ?_
        refine aw_iret C hQe ?_ (by omega) (by omega) dX4_best_109
        have h8 : i = S.nQ := by have := ge_of (n := S.nQ) hx (by have := hI.Q6; omega) (by have := hI.Q6; omega) (by rw [hI.1.2.2.1] at c_20; exact c_20); omega
        rw [show ix (nI j) = j from ix_nI hj6 (by decide)]
        exact ⟨by simp [stC, hb1], by unfold beF; rw [hs.1, h8], ⟨_, _, hR.setFl _ _⟩, (FrC.rf.mp (v0 (by decide)))⟩
      · have hi : i < S.nQ := lt_of (n := S.nQ) hx (by have := hI.Q6; omega) (by have := hI.Q6; omega) (by rw [hI.1.2.2.1] at c_20; exact c_20)
        have hi6 : i < 6 := Nat.lt_of_lt_of_le hi hI.Q6
        subst hx
        have nv : Nn (flH S j i (S.A j 2) (S.c 4)) := (fl_ok hI hj hi _ hI.2.1.2).1.nn (by decide)
        refine aw_aload_n C dX4_best_23 rfl ?_
        refine aw_iload C dX4_best_24 rfl ?_
        refine aw_callV (n := 1) C hE (ci := 6) (q := (RX4, TX4, 16)) (k_X4_holderOf (x := (nI i)) B ⟨_, _, (hR.setFl xh xv)⟩ hI) gX4_best_X4_holderOf rfl ⟨rfl, rfl⟩ (by decide +kernel) ⟨by decide, by decide⟩ rfl rfl (hR.setFl xh xv).mn rfl (Nat.le_of_ble_eq_true rfl) dX4_best_26 ⟨by decide, by decide⟩ (fun v μ' hp => ?_)
        obtain ⟨rfl, hm9⟩ := hp
        replace hm9 := hm9.symm
        subst hm9
        refine aw_st (st' := [.int (hoF S (nI i))]) rfl ?_
        refine aw_istore C dX4_best_29 (by decide) ?_
        refine aw_iload C dX4_best_31 rfl ?_
        refine aw_iconst C (v := (-1)) (by decide) dX4_best_33 ?_
        refine aw_icmp_eq C (tgt := 43) dX4_best_34 (by decide) (fun c_34 => ?_) (fun c_34 => ?_)
        · refine aw_aload_n C dX4_best_43 rfl ?_
          refine aw_get C f41 (hR.setFl xh xv).mn rfl dX4_best_44 ?_
          refine aw_aload_n C dX4_best_47 rfl ?_
          refine aw_aload_n C dX4_best_48 rfl ?_
          refine aw_get C f17 (hR.setFl xh xv).mn rfl dX4_best_49 ?_
          refine aw_iload C dX4_best_52 rfl ?_
          refine aw_aaldE C (t0 := 4) rfl (hR.setFl xh xv).aQ rfl ⟨hi6, by decide⟩ rfl dX4_best_54 ?_
          refine aw_aload_n C dX4_best_55 rfl ?_
          refine aw_get C f99 ((hR.setFl xh xv).ar hj6) rfl dX4_best_56 ?_
          refine aw_aload_n C dX4_best_59 rfl ?_
          refine aw_get C f21 (hR.setFl xh xv).mn rfl dX4_best_60 ?_
          refine aw_aload_n C dX4_best_63 rfl ?_
          refine aw_get C f115 (hR.setFl xh xv).mn rfl dX4_best_64 ?_
          refine aw_callV (n := 5) C hE (ci := 3) (q := (RX1, TX1, 2)) (k_flyS (S := S) (j := j) (n := i) (x := (S.A j 2)) (di := (S.c 4)) B (hR.setFl xh xv) hI hj hi hI.2.1.2) gX4_best_X1_fly rfl ⟨rfl, rfl⟩ (by decide +kernel) ⟨by decide, by decide⟩ rfl rfl (hR.setFl xh xv).fl rfl (Nat.le_of_ble_eq_true rfl) dX4_best_67 ⟨by decide, by decide⟩ (fun v μ' hp => ?_)
          obtain ⟨rfl, hm9⟩ := hp
          replace hm9 := hm9.symm
          subst hm9
          refine aw_st (st' := []) rfl ?_
          refine aw_aload_n C dX4_best_70 rfl ?_
          refine aw_get C f41 (mp_k (hR.setFl xh xv).mn (hR.li.ne (v0 (by decide)) (v0 (by decide)) (Or.inl (by decide)))) rfl dX4_best_71 ?_
          refine aw_get C f254 mp_s rfl dX4_best_74 ?_
          refine aw_callS (n := 1) C hE (k_X4_size (x := (flH S j i (S.A j 2) (S.c 4))) B nv) gX4_best_X4_size rfl ⟨rfl, rfl⟩ (by decide +kernel) ⟨by decide, by decide⟩ rfl rfl (Nat.le_of_ble_eq_true rfl) dX4_best_77 ⟨by decide, by decide⟩ (fun v μ' hp => ?_)
          obtain ⟨rfl, hm9⟩ := hp
          replace hm9 := hm9.symm
          subst hm9
          refine aw_st (st' := [.double (szF (flH S j i (S.A j 2) (S.c 4)))]) rfl ?_
          refine aw_dstore C dX4_best_80 (by decide) ?_
          refine aw_iload_n C dX4_best_82 rfl ?_
          refine aw_iconst C (v := (-1)) (by decide) dX4_best_83 ?_
          refine aw_icmp_eq C (tgt := 95) dX4_best_84 (by decide) (fun c_84 => ?_) (fun c_84 => ?_)
          · refine aw_iload C dX4_best_95 rfl ?_
            refine aw_istore_n C dX4_best_97 (by decide) ?_
            refine aw_dload C dX4_best_98 rfl ?_
            refine aw_dstore C dX4_best_100 (by decide) ?_
            refine aw_iinc C dX4_best_102 rfl (by decide) ?_
            refine aw_goto C (tgt := 14) dX4_best_105 (by decide) ?_
            have hs9 : nI i = beN S j (i + 1) := by
              unfold beN
              rw [if_pos ⟨(Or.inl c_34), Or.inl (hs.1.symm.trans c_84)⟩]
            refine aw_mu mp_mp ?_
            refine aw_lv (lv' := [(0, .ref (L 0 0)), (1, .int (nI j)), (2, .ref (L 5 j)), (3, .int (nI i)), (4, .double (szF (flH S j i (S.A j 2) (S.c 4)))), (6, .int (nI i + Int32.ofInt (1)))]) ⟨rfl, rfl, rfl, rfl, rfl, rfl, trivial⟩ ?_
            exact ih _ (by omega) (i + 1) (nI i + Int32.ofInt (1)) (nI i) (szF (flH S j i (S.A j 2) (S.c 4))) (flH S j i (S.A j 2) (S.c 4)) (flV S j i (S.A j 2) (S.c 4)) rfl (nI_inc i) (by omega) (⟨hs9, Or.inr ⟨i, hi, rfl, szF_nn nv, szF_key nv⟩⟩)
          · refine aw_dload C dX4_best_87 rfl ?_
            refine aw_dload C dX4_best_89 rfl ?_
            refine aw_dcmp C dX4_best_91 ?_
            refine aw_if_ge C (tgt := 102) dX4_best_92 (by decide) (fun c_92 => ?_) (fun c_92 => ?_)
            · refine aw_iinc C dX4_best_102 rfl (by decide) ?_
              refine aw_goto C (tgt := 14) dX4_best_105 (by decide) ?_
              have hs9 : b = beN S j (i + 1) := by
                obtain ⟨k, h0, h1, h2, h3⟩ := hs.2.resolve_left c_84
                rw [kv_ge0 (szF_nn nv) h2, szF_key nv, h3] at c_92
                unfold beN
                rw [if_neg (fun q => q.2.elim (fun z => c_84 (hs.1.trans z)) (by rw [← hs.1, h1, show ix (nI k) = k from ix_nI h0 (by have := hI.Q6; omega)]; omega))]
                exact hs.1
              refine aw_mu mp_mp ?_
              refine aw_lv (lv' := [(0, .ref (L 0 0)), (1, .int (nI j)), (2, .ref (L 5 j)), (3, .int b), (4, .double nb), (6, .int (nI i + Int32.ofInt (1)))]) ⟨rfl, rfl, rfl, rfl, rfl, rfl, trivial⟩ ?_
              exact ih _ (by omega) (i + 1) (nI i + Int32.ofInt (1)) b nb (flH S j i (S.A j 2) (S.c 4)) (flV S j i (S.A j 2) (S.c 4)) rfl (nI_inc i) (by omega) (⟨hs9, hs.2⟩)
            · refine aw_iload C dX4_best_95 rfl ?_
              refine aw_istore_n C dX4_best_97 (by decide) ?_
              refine aw_dload C dX4_best_98 rfl ?_
              refine aw_dstore C dX4_best_100 (by decide) ?_
              refine aw_iinc C dX4_best_102 rfl (by decide) ?_
              refine aw_goto C (tgt := 14) dX4_best_105 (by decide) ?_
              have hs9 : nI i = beN S j (i + 1) := by
                obtain ⟨k, h0, h1, h2, h3⟩ := hs.2.resolve_left c_84
                rw [kv_ge0 (szF_nn nv) h2, szF_key nv, h3] at c_92
                unfold beN
                rw [if_pos ⟨(Or.inl c_34), Or.inr (by rw [← hs.1, h1, show ix (nI k) = k from ix_nI h0 (by have := hI.Q6; omega)]; omega)⟩]
              refine aw_mu mp_mp ?_
              refine aw_lv (lv' := [(0, .ref (L 0 0)), (1, .int (nI j)), (2, .ref (L 5 j)), (3, .int (nI i)), (4, .double (szF (flH S j i (S.A j 2) (S.c 4)))), (6, .int (nI i + Int32.ofInt (1)))]) ⟨rfl, rfl, rfl, rfl, rfl, rfl, trivial⟩ ?_
              exact ih _ (by omega) (i + 1) (nI i + Int32.ofInt (1)) (nI i) (szF (flH S j i (S.A j 2) (S.c 4))) (flH S j i (S.A j 2) (S.c 4)) (flV S j i (S.A j 2) (S.c 4)) rfl (nI_inc i) (by omega) (⟨hs9, Or.inr ⟨i, hi, rfl, szF_nn nv, szF_key nv⟩⟩)
        · refine aw_iload C dX4_best_37 rfl ?_
          refine aw_iload_n C dX4_best_39 rfl ?_
          refine aw_icmp_ne C (tgt := 102) dX4_best_40 (by decide) (fun c_40 => ?_) (fun c_40 => ?_)
          · refine aw_iinc C dX4_best_102 rfl (by decide) ?_
            refine aw_goto C (tgt := 14) dX4_best_105 (by decide) ?_
            have hs9 : b = beN S j (i + 1) := by
              unfold beN
              rw [if_neg (fun q => q.1.elim c_34 c_40)]
              exact hs.1
            refine aw_lv (lv' := [(0, .ref (L 0 0)), (1, .int (nI j)), (2, .ref (L 5 j)), (3, .int b), (4, .double nb), (6, .int (nI i + Int32.ofInt (1)))]) ⟨rfl, rfl, rfl, rfl, rfl, rfl, trivial⟩ ?_
            exact ih _ (by omega) (i + 1) (nI i + Int32.ofInt (1)) b nb xh xv rfl (nI_inc i) (by omega) (⟨hs9, hs.2⟩)
          · refine aw_aload_n C dX4_best_43 rfl ?_
            refine aw_get C f41 (hR.setFl xh xv).mn rfl dX4_best_44 ?_
            refine aw_aload_n C dX4_best_47 rfl ?_
            refine aw_aload_n C dX4_best_48 rfl ?_
            refine aw_get C f17 (hR.setFl xh xv).mn rfl dX4_best_49 ?_
            refine aw_iload C dX4_best_52 rfl ?_
            refine aw_aaldE C (t0 := 4) rfl (hR.setFl xh xv).aQ rfl ⟨hi6, by decide⟩ rfl dX4_best_54 ?_
            refine aw_aload_n C dX4_best_55 rfl ?_
            refine aw_get C f99 ((hR.setFl xh xv).ar hj6) rfl dX4_best_56 ?_
            refine aw_aload_n C dX4_best_59 rfl ?_
            refine aw_get C f21 (hR.setFl xh xv).mn rfl dX4_best_60 ?_
            refine aw_aload_n C dX4_best_63 rfl ?_
            refine aw_get C f115 (hR.setFl xh xv).mn rfl dX4_best_64 ?_
            refine aw_callV (n := 5) C hE (ci := 3) (q := (RX1, TX1, 2)) (k_flyS (S := S) (j := j) (n := i) (x := (S.A j 2)) (di := (S.c 4)) B (hR.setFl xh xv) hI hj hi hI.2.1.2) gX4_best_X1_fly rfl ⟨rfl, rfl⟩ (by decide +kernel) ⟨by decide, by decide⟩ rfl rfl (hR.setFl xh xv).fl rfl (Nat.le_of_ble_eq_true rfl) dX4_best_67 ⟨by decide, by decide⟩ (fun v μ' hp => ?_)
            obtain ⟨rfl, hm9⟩ := hp
            replace hm9 := hm9.symm
            subst hm9
            refine aw_st (st' := []) rfl ?_
            refine aw_aload_n C dX4_best_70 rfl ?_
            refine aw_get C f41 (mp_k (hR.setFl xh xv).mn (hR.li.ne (v0 (by decide)) (v0 (by decide)) (Or.inl (by decide)))) rfl dX4_best_71 ?_
            refine aw_get C f254 mp_s rfl dX4_best_74 ?_
            refine aw_callS (n := 1) C hE (k_X4_size (x := (flH S j i (S.A j 2) (S.c 4))) B nv) gX4_best_X4_size rfl ⟨rfl, rfl⟩ (by decide +kernel) ⟨by decide, by decide⟩ rfl rfl (Nat.le_of_ble_eq_true rfl) dX4_best_77 ⟨by decide, by decide⟩ (fun v μ' hp => ?_)
            obtain ⟨rfl, hm9⟩ := hp
            replace hm9 := hm9.symm
            subst hm9
            refine aw_st (st' := [.double (szF (flH S j i (S.A j 2) (S.c 4)))]) rfl ?_
            refine aw_dstore C dX4_best_80 (by decide) ?_
            refine aw_iload_n C dX4_best_82 rfl ?_
            refine aw_iconst C (v := (-1)) (by decide) dX4_best_83 ?_
            refine aw_icmp_eq C (tgt := 95) dX4_best_84 (by decide) (fun c_84 => ?_) (fun c_84 => ?_)
            · refine aw_iload C dX4_best_95 rfl ?_
              refine aw_istore_n C dX4_best_97 (by decide) ?_
              refine aw_dload C dX4_best_98 rfl ?_
              refine aw_dstore C dX4_best_100 (by decide) ?_
              refine aw_iinc C dX4_best_102 rfl (by decide) ?_
              refine aw_goto C (tgt := 14) dX4_best_105 (by decide) ?_
              have hs9 : nI i = beN S j (i + 1) := by
                unfold beN
                rw [if_pos ⟨(Or.inr c_40), Or.inl (hs.1.symm.trans c_84)⟩]
              refine aw_mu mp_mp ?_
              refine aw_lv (lv' := [(0, .ref (L 0 0)), (1, .int (nI j)), (2, .ref (L 5 j)), (3, .int (nI i)), (4, .double (szF (flH S j i (S.A j 2) (S.c 4)))), (6, .int (nI i + Int32.ofInt (1)))]) ⟨rfl, rfl, rfl, rfl, rfl, rfl, trivial⟩ ?_
              exact ih _ (by omega) (i + 1) (nI i + Int32.ofInt (1)) (nI i) (szF (flH S j i (S.A j 2) (S.c 4))) (flH S j i (S.A j 2) (S.c 4)) (flV S j i (S.A j 2) (S.c 4)) rfl (nI_inc i) (by omega) (⟨hs9, Or.inr ⟨i, hi, rfl, szF_nn nv, szF_key nv⟩⟩)
            · refine aw_dload C dX4_best_87 rfl ?_
              refine aw_dload C dX4_best_89 rfl ?_
              refine aw_dcmp C dX4_best_91 ?_
              refine aw_if_ge C (tgt := 102) dX4_best_92 (by decide) (fun c_92 => ?_) (fun c_92 => ?_)
              · refine aw_iinc C dX4_best_102 rfl (by decide) ?_
                refine aw_goto C (tgt := 14) dX4_best_105 (by decide) ?_
                have hs9 : b = beN S j (i + 1) := by
                  obtain ⟨k, h0, h1, h2, h3⟩ := hs.2.resolve_left c_84
                  rw [kv_ge0 (szF_nn nv) h2, szF_key nv, h3] at c_92
                  unfold beN
                  rw [if_neg (fun q => q.2.elim (fun z => c_84 (hs.1.trans z)) (by rw [← hs.1, h1, show ix (nI k) = k from ix_nI h0 (by have := hI.Q6; omega)]; omega))]
                  exact hs.1
                refine aw_mu mp_mp ?_
                refine aw_lv (lv' := [(0, .ref (L 0 0)), (1, .int (nI j)), (2, .ref (L 5 j)), (3, .int b), (4, .double nb), (6, .int (nI i + Int32.ofInt (1)))]) ⟨rfl, rfl, rfl, rfl, rfl, rfl, trivial⟩ ?_
                exact ih _ (by omega) (i + 1) (nI i + Int32.ofInt (1)) b nb (flH S j i (S.A j 2) (S.c 4)) (flV S j i (S.A j 2) (S.c 4)) rfl (nI_inc i) (by omega) (⟨hs9, hs.2⟩)
              · refine aw_iload C dX4_best_95 rfl ?_
                refine aw_istore_n C dX4_best_97 (by decide) ?_
                refine aw_dload C dX4_best_98 rfl ?_
                refine aw_dstore C dX4_best_100 (by decide) ?_
                refine aw_iinc C dX4_best_102 rfl (by decide) ?_
                refine aw_goto C (tgt := 14) dX4_best_105 (by decide) ?_
                have hs9 : nI i = beN S j (i + 1) := by
                  obtain ⟨k, h0, h1, h2, h3⟩ := hs.2.resolve_left c_84
                  rw [kv_ge0 (szF_nn nv) h2, szF_key nv, h3] at c_92
                  unfold beN
                  rw [if_pos ⟨(Or.inr c_40), Or.inr (by rw [← hs.1, h1, show ix (nI k) = k from ix_nI h0 (by have := hI.Q6; omega)]; omega)⟩]
                refine aw_mu mp_mp ?_
                refine aw_lv (lv' := [(0, .ref (L 0 0)), (1, .int (nI j)), (2, .ref (L 5 j)), (3, .int (nI i)), (4, .double (szF (flH S j i (S.A j 2) (S.c 4)))), (6, .int (nI i + Int32.ofInt (1)))]) ⟨rfl, rfl, rfl, rfl, rfl, rfl, trivial⟩ ?_
                exact ih _ (by omega) (i + 1) (nI i + Int32.ofInt (1)) (nI i) (szF (flH S j i (S.A j 2) (S.c 4))) (flH S j i (S.A j 2) (S.c 4)) (flV S j i (S.A j 2) (S.c 4)) rfl (nI_inc i) (by omega) (⟨hs9, Or.inr ⟨i, hi, rfl, szF_nn nv, szF_key nv⟩⟩)
  exact loop14 _ 0 0 (-1) FP.dconst0 fh fv rfl rfl (Nat.zero_le _) (⟨rfl, Or.inl rfl⟩)
set_option maxRecDepth 100000 in
set_option maxHeartbeats 4000000 in
theorem k_X4_reach (hl9 : l.stackTraces = false) (B : Base s0) {μ : mu} {L : Nat → Nat → Nat} {S : SS} (h0 : RX g L S μ) (hI : Iv S) {x : Int32} : Cy l yX4_reach wsX4_reach (rmOf 8 2 12 150) s0 D (tyL g) [.ref (L 0 0), .int x] μ 2 12 (fun v μ' => rdC S x = 0 ∧ v = some (.int (reF S (ix x))) ∧ RX g L S μ' ∧ FrC L μ μ') (fun E μ' => px9 [IOB, ISE] (rdC S x) E ∧ RX g L S μ' ∧ FrC L μ μ') := by
  refine Cy.of (cc := cX4_reach) (own := RX4) (maxL := 5) (ret := (some .int)) (by decide) rfl rfl (Nat.le_of_ble_eq_true rfl) ?_
  intro p e s m args below meth c Q C hE hnt hQ hQe
  obtain ⟨fh, fv, hR⟩ := h0
  have in_RX4 : ∀ w ∈ u_ws RX4 TX4 16, w ∈ wsX4_reach := by decide +kernel
  have in_RX1 : ∀ w ∈ u_ws RX1 TX1 2, w ∈ wsX4_reach := by decide +kernel
  have f41 : FL wsX4_reach RX4 41 6 "ArrowField" RX4 TX4 16 15 := ⟨in_RX4, rfl, by decide, by decide +kernel, Or.inl rfl⟩
  have f115 : FL wsX4_reach RX4 115 6 "ArrowField" RX4 TX4 16 5 := ⟨in_RX4, rfl, by decide, by decide +kernel, Or.inl rfl⟩
  have f251 : FL wsX4_reach RX4 251 3 "ArrowField$Flight" RX1 TX1 2 1 := ⟨in_RX1, rfl, by decide, by decide +kernel, Or.inl rfl⟩
  refine aw_aload_n C dX4_reach_0 rfl ?_
  refine aw_iload_n C dX4_reach_1 rfl ?_
  refine ax_callV (n := 1) C hE hQ hnt (ci := 6) (q := (RX4, TX4, 16)) (k_X4_archerNumbered (x := x) hl9 B ⟨_, _, hR⟩ hI) gX4_reach_X4_archerNumbered rfl ⟨rfl, rfl⟩ (by decide +kernel) ⟨by decide, by decide⟩ rfl rfl hR.mn rfl (Nat.le_of_ble_eq_true rfl) dX4_reach_2 ⟨by decide, by decide⟩ ⟨by decide, by decide⟩ (fun E9 μ9 hp => by obtain ⟨rfl, hn, rfl⟩ := hp; exact ⟨⟨by simp [rdC, hn], by simp [rdC, hn]⟩, ⟨_, _, hR⟩, FrC.rf⟩) (fun v μ' hp => ?_)
  obtain ⟨hb1, ⟨j, hj, rfl, rfl⟩, hm9⟩ := hp
  replace hm9 := hm9.symm
  subst hm9
  refine aw_st (st' := [.ref (L 5 j)]) rfl ?_
  have hj6 : j < 6 := Nat.lt_of_lt_of_le hj hI.A6
  refine aw_astore_n C dX4_reach_5 (by decide) ?_
  refine aw_aload_n C dX4_reach_6 rfl ?_
  refine aw_aload_n C dX4_reach_7 rfl ?_
  refine ax_callV (n := 1) C hE hQ hnt (ci := 6) (q := (RX4, TX4, 16)) (k_X4_quiverOf hl9 B ⟨_, _, hR⟩ hI hj) gX4_reach_X4_quiverOf rfl ⟨rfl, rfl⟩ (by decide +kernel) ⟨by decide, by decide⟩ rfl rfl hR.mn rfl (Nat.le_of_ble_eq_true rfl) dX4_reach_8 ⟨by decide, by decide⟩ ⟨by decide, by decide⟩ (fun E9 μ9 hp => by obtain ⟨rfl, hn, rfl⟩ := hp; have ej6 : ix (nI j) = j := ix_nI hj6 (by decide); exact ⟨⟨by simp [rdC, hb1, hn, ej6], by simp [rdC, hb1, hn, ej6]⟩, ⟨_, _, hR⟩, FrC.rf⟩) (fun v μ' hp => ?_)
  obtain ⟨⟨u, hu, huq, rfl⟩, hm9⟩ := hp
  replace hm9 := hm9.symm
  subst hm9
  have hu6 : u < 6 := Nat.lt_of_lt_of_le hu hI.Q6
  have ej6 : ix (nI j) = j := ix_nI hj6 (by decide)
  have eu6 : ix (nI u) = u := ix_nI hu6 (by decide)
  have nuq : ¬ S.A j 5 = -1 := by rw [huq]; exact nI_m1 (by omega)
  refine aw_st (st' := [.ref (L 6 u)]) rfl ?_
  refine aw_astore_n C dX4_reach_11 (by decide) ?_
  refine aw_bipush C (v := 90) (by decide) dX4_reach_12 ?_
  refine aw_istore C dX4_reach_14 (by decide) ?_
  refine aw_mu (mp_id hR.fl).symm ?_
  refine aw_lv (lv' := [(0, .ref (L 0 0)), (1, .int (nI j)), (2, .ref (L 5 j)), (3, .ref (L 6 u)), (4, .int 90)]) ⟨rfl, rfl, rfl, rfl, rfl, trivial⟩ ?_
  have loop16 : ∀ (n : Nat) (i : Nat) (xi : Int32) (xh : UInt64) (xv : UInt64), i = n → xi = nI (i + 9) → i ≤ 81 → reN S j i = reF S j → Aw p l e (rmOf 8 2 12 150) s m args below meth c Q s0.heap.size D 5 (mp μ (L 4 0) (eFl xh xv)) (0 + 1 + 1) (0 + 6 + 6) 16 [(0, .ref (L 0 0)), (1, .int (nI j)), (2, .ref (L 5 j)), (3, .ref (L 6 u)), (4, .int xi)] [] := by
    intro n
    induction n using Nat.strongRecOn with
    | _ n ih =>
      intro i xi xh xv hn hx hk hs
      refine aw_iload C dX4_reach_16 rfl ?_
      refine aw_bipush C (v := 10) (by decide) dX4_reach_18 ?_
      refine aw_icmp_lt C (tgt := 61) dX4_reach_20 (by decide) (fun c_20 => ?_) (fun c_20 => ?_)
      · refine aw_iconst C (v := (-1)) (by decide) dX4_reach_61 ?_
        refine aw_iret C hQe ?_ (by omega) (by omega) dX4_reach_62
        have h9 : xi < nI 10 := c_20
        rw [hx, nI_ltI (by omega) (by decide)] at h9
        have h8 : i = 0 := by omega
        subst h8
        rw [show ix (nI j) = j from ix_nI hj6 (by decide)]
        exact ⟨by simp [rdC, hb1, ej6, nuq], by rw [← hs]; rfl, ⟨_, _, hR.setFl _ _⟩, (FrC.rf.mp (v0 (by decide)))⟩
      · obtain ⟨k, rfl⟩ : ∃ k, i = k + 1 := ⟨i - 1, by have h9 : ¬ xi < nI 10 := c_20; rw [hx, nI_ltI (by omega) (by decide)] at h9; omega⟩
        subst hx
        have hd : (nI (k + 1 + 9)).toInt ≤ 90 := by rw [nI_toInt (by omega)]; omega
        have nv : Nn (flV S j u 127 (nI (k + 1 + 9))) := (fl_ok hI hj hu _ hd).2.nn (by decide)
        have e9 : ix (S.A j 5) = u := by rw [huq]; exact eu6
        refine aw_aload_n C dX4_reach_23 rfl ?_
        refine aw_get C f41 (hR.setFl xh xv).mn rfl dX4_reach_24 ?_
        refine aw_aload_n C dX4_reach_27 rfl ?_
        refine aw_aload_n C dX4_reach_28 rfl ?_
        refine aw_bipush C (v := 127) (by decide) dX4_reach_29 ?_
        refine aw_iload C dX4_reach_31 rfl ?_
        refine aw_aload_n C dX4_reach_33 rfl ?_
        refine aw_get C f115 (hR.setFl xh xv).mn rfl dX4_reach_34 ?_
        refine aw_callV (n := 5) C hE (ci := 3) (q := (RX1, TX1, 2)) (k_flyS (S := S) (j := j) (n := u) (x := 127) (di := (nI (k + 1 + 9))) B (hR.setFl xh xv) hI hj hu hd) gX4_reach_X1_fly rfl ⟨rfl, rfl⟩ (by decide +kernel) ⟨by decide, by decide⟩ rfl rfl (hR.setFl xh xv).fl rfl (Nat.le_of_ble_eq_true rfl) dX4_reach_37 ⟨by decide, by decide⟩ (fun v μ' hp => ?_)
        obtain ⟨rfl, hm9⟩ := hp
        replace hm9 := hm9.symm
        subst hm9
        refine aw_st (st' := []) rfl ?_
        refine aw_aload_n C dX4_reach_40 rfl ?_
        refine aw_get C f41 (mp_k (hR.setFl xh xv).mn (hR.li.ne (v0 (by decide)) (v0 (by decide)) (Or.inl (by decide)))) rfl dX4_reach_41 ?_
        refine aw_get C f251 mp_s rfl dX4_reach_44 ?_
        refine aw_dconst0 C dX4_reach_47 ?_
        refine aw_dcmp C dX4_reach_48 ?_
        refine aw_if_lt C (tgt := 55) dX4_reach_49 (by decide) (fun c_49 => ?_) (fun c_49 => ?_)
        · refine aw_iinc C dX4_reach_55 rfl (by decide) ?_
          refine aw_goto C (tgt := 16) dX4_reach_58 (by decide) ?_
          have hs9 : reN S j k = reF S j := by
            rw [← hs]
            rw [kv_lt0 nv d0_nn, d0_key] at c_49
            exact (reN_n (by rw [e9]; exact Int.not_le.mpr c_49)).symm
          refine aw_mu mp_mp ?_
          refine aw_lv (lv' := [(0, .ref (L 0 0)), (1, .int (nI j)), (2, .ref (L 5 j)), (3, .ref (L 6 u)), (4, .int (nI (k + 1 + 9) + Int32.ofInt (-1)))]) ⟨rfl, rfl, rfl, rfl, rfl, trivial⟩ ?_
          exact ih _ (by omega) k (nI (k + 1 + 9) + Int32.ofInt (-1)) (flH S j u 127 (nI (k + 10))) (flV S j u 127 (nI (k + 10))) rfl (pk_m1 (k + 9)) (by omega) hs9
        · refine aw_mu mp_mp ?_
          refine aw_iload C dX4_reach_52 rfl ?_
          refine aw_iret C hQe ?_ (by omega) (by omega) dX4_reach_54
          rw [show ix (nI j) = j from ix_nI hj6 (by decide)]
          exact ⟨by simp [rdC, hb1, ej6, nuq], by rw [← hs]; rw [kv_lt0 nv d0_nn, d0_key] at c_49; rw [reN_y (by rw [e9]; exact Int.not_lt.mp c_49)], ⟨_, _, hR.setFl _ _⟩, (FrC.rf.mp (v0 (by decide)))⟩
  exact loop16 _ 81 90 fh fv rfl rfl (by decide) rfl
end KN
