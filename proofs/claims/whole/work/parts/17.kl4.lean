/-! ===== ArrowField: gives, matches, shots ===== -/
section KO
variable {l : Launch} {s0 : State} {D : va_G} {g : Nat → ClassId}
set_option maxRecDepth 100000 in
set_option maxHeartbeats 4000000 in
theorem k_X4_mend (hl9 : l.stackTraces = false) (B : Base s0) {μ : mu} {L : Nat → Nat → Nat} {S : SS} (h0 : RX g L S μ) (hI : Iv S) {x : Int32} : Cy l yX4_mend wsX4_mend (rmOf 7 1 6 130) s0 D (tyL g) [.ref (L 0 0), .int x] μ 1 6 (fun v μ' => meC S x = 0 ∧ v = some (.int (nI (bbN (S.F (ix x)) 3 12))) ∧ RX g L (meS S (ix x)) μ' ∧ FrC L μ μ') (fun E μ' => px9 [IOB] (meC S x) E ∧ RX g L S μ' ∧ FrC L μ μ') := by
  refine Cy.of (cc := cX4_mend) (own := RX4) (maxL := 2) (ret := (some .int)) (by decide) rfl rfl (Nat.le_of_ble_eq_true rfl) ?_
  intro p e s m args below meth c Q C hE hnt hQ hQe
  obtain ⟨fh, fv, hR⟩ := h0
  have in_RX4 : ∀ w ∈ u_ws RX4 TX4 16, w ∈ wsX4_mend := by decide +kernel
  have f17 : FL wsX4_mend RX4 17 6 "ArrowField" RX4 TX4 16 1 := ⟨in_RX4, rfl, by decide, by decide +kernel, Or.inl rfl⟩
  refine aw_aload_n C dX4_mend_0 rfl ?_
  refine aw_iload_n C dX4_mend_1 rfl ?_
  refine ax_callV (n := 1) C hE hQ hnt (ci := 6) (q := (RX4, TX4, 16)) (k_X4_needQuiver (x := x) hl9 B ⟨_, _, hR⟩ hI) gX4_mend_X4_needQuiver rfl ⟨rfl, rfl⟩ (by decide +kernel) ⟨by decide, by decide⟩ rfl rfl hR.mn rfl (Nat.le_of_ble_eq_true rfl) dX4_mend_2 ⟨by decide, by decide⟩ ⟨by decide, by decide⟩ (fun E9 μ9 hp => by obtain ⟨rfl, hn, rfl⟩ := hp; exact ⟨⟨by simp [meC, hn], by simp [meC, hn]⟩, ⟨_, _, hR⟩, FrC.rf⟩) (fun v μ' hp => ?_)
  obtain ⟨hb1, rfl, hm9⟩ := hp
  replace hm9 := hm9.symm
  subst hm9
  obtain ⟨j, hj, rfl⟩ := inb_of hb1 (by have := hI.Q6; omega)
  have hj6 : j < 6 := Nat.lt_of_lt_of_le hj hI.Q6
  refine aw_st (st' := []) rfl ?_
  refine aw_aload_n C dX4_mend_5 rfl ?_
  refine aw_get C f17 hR.mn rfl dX4_mend_6 ?_
  refine aw_iload_n C dX4_mend_9 rfl ?_
  refine aw_aaldE C (t0 := 4) rfl hR.aQ rfl ⟨hj6, by decide⟩ rfl dX4_mend_10 ?_
  refine aw_iconst C (v := 3) (by decide) dX4_mend_11 ?_
  refine aw_callV (n := 1) C hE (ci := 5) (q := (RX3, TX3, 5)) (k_X3_bringBack (f := S.F j) (x := 3) B (hR.qu hj6) (hR.st hj6) (hR.li.ne (v5 (by decide) hj6) (v5 (by decide) hj6) (Or.inl (by decide)))) gX4_mend_X3_bringBack rfl ⟨rfl, rfl⟩ (by decide +kernel) ⟨by decide, by decide⟩ rfl rfl (hR.qu hj6) rfl (Nat.le_of_ble_eq_true rfl) dX4_mend_12 ⟨by decide, by decide⟩ (fun v μ' hp => ?_)
  obtain ⟨rfl, hm9⟩ := hp
  replace hm9 := hm9.symm
  subst hm9
  refine aw_st (st' := [.int (nI (bbN (S.F j) 3 12))]) rfl ?_
  refine aw_iret C hQe ?_ (by omega) (by omega) dX4_mend_15
  rw [show ix (nI j) = j from ix_nI hj6 (by decide)]
  exact ⟨by simp [meC, hb1], rfl, ⟨_, _, hR.setSt hj6 _⟩, (FrC.rf.mp (v5 (by decide) hj6))⟩
set_option maxRecDepth 100000 in
set_option maxHeartbeats 4000000 in
theorem k_X4_give (hl9 : l.stackTraces = false) (B : Base s0) {μ : mu} {L : Nat → Nat → Nat} {S : SS} (h0 : RX g L S μ) (hI : Iv S) {x y : Int32} : Cy l yX4_give wsX4_give (rmOf 7 3 18 130) s0 D (tyL g) [.ref (L 0 0), .int x, .int y] μ 3 18 (fun v μ' => giC S x y = 0 ∧ v = some (.int (hoF S y)) ∧ RX g L (giS S (ix x) y) μ' ∧ FrC L μ μ') (fun E μ' => px9 [IOB, ISE] (giC S x y) E ∧ RX g L S μ' ∧ FrC L μ μ') := by
  refine Cy.of (cc := cX4_give) (own := RX4) (maxL := 5) (ret := (some .int)) (by decide) rfl rfl (Nat.le_of_ble_eq_true rfl) ?_
  intro p e s m args below meth c Q C hE hnt hQ hQe
  obtain ⟨fh, fv, hR⟩ := h0
  have in_RX4 : ∀ w ∈ u_ws RX4 TX4 16, w ∈ wsX4_give := by decide +kernel
  have in_RX2 : ∀ w ∈ u_ws RX2 TX2 10, w ∈ wsX4_give := by decide +kernel
  have in_RX0 : ∀ w ∈ u_ws RX0 TX0 12, w ∈ wsX4_give := by decide +kernel
  have f31 : FL wsX4_give RX4 31 6 "ArrowField" RX4 TX4 16 12 := ⟨in_RX4, rfl, by decide, by decide +kernel, Or.inl rfl⟩
  have f86 : FL wsX4_give RX4 86 4 "ArrowField$Match" RX2 TX2 10 0 := ⟨in_RX2, rfl, by decide, by decide +kernel, Or.inl rfl⟩
  have f96 : FL wsX4_give RX4 96 2 "ArrowField$Archer" RX0 TX0 12 5 := ⟨in_RX0, rfl, by decide, by decide +kernel, Or.inl rfl⟩
  have f11 : FL wsX4_give RX4 11 6 "ArrowField" RX4 TX4 16 0 := ⟨in_RX4, rfl, by decide, by decide +kernel, Or.inl rfl⟩
  refine aw_aload_n C dX4_give_0 rfl ?_
  refine aw_iload_n C dX4_give_1 rfl ?_
  refine ax_callV (n := 1) C hE hQ hnt (ci := 6) (q := (RX4, TX4, 16)) (k_X4_archerNumbered (x := x) hl9 B ⟨_, _, hR⟩ hI) gX4_give_X4_archerNumbered rfl ⟨rfl, rfl⟩ (by decide +kernel) ⟨by decide, by decide⟩ rfl rfl hR.mn rfl (Nat.le_of_ble_eq_true rfl) dX4_give_2 ⟨by decide, by decide⟩ ⟨by decide, by decide⟩ (fun E9 μ9 hp => by obtain ⟨rfl, hn, rfl⟩ := hp; exact ⟨⟨by simp [giC, hn], by simp [giC, hn]⟩, ⟨_, _, hR⟩, FrC.rf⟩) (fun v μ' hp => ?_)
  obtain ⟨hb1, ⟨j, hj, rfl, rfl⟩, hm9⟩ := hp
  replace hm9 := hm9.symm
  subst hm9
  refine aw_st (st' := [.ref (L 5 j)]) rfl ?_
  have hj6 : j < 6 := Nat.lt_of_lt_of_le hj hI.A6
  refine aw_astore_n C dX4_give_5 (by decide) ?_
  refine aw_aload_n C dX4_give_6 rfl ?_
  refine aw_iload_n C dX4_give_7 rfl ?_
  refine ax_callV (n := 1) C hE hQ hnt (ci := 6) (q := (RX4, TX4, 16)) (k_X4_needQuiver (x := y) hl9 B ⟨_, _, hR⟩ hI) gX4_give_X4_needQuiver rfl ⟨rfl, rfl⟩ (by decide +kernel) ⟨by decide, by decide⟩ rfl rfl hR.mn rfl (Nat.le_of_ble_eq_true rfl) dX4_give_8 ⟨by decide, by decide⟩ ⟨by decide, by decide⟩ (fun E9 μ9 hp => by obtain ⟨rfl, hn, rfl⟩ := hp; exact ⟨⟨by simp [giC, hb1, hn], by simp [giC, hb1, hn]⟩, ⟨_, _, hR⟩, FrC.rf⟩) (fun v μ' hp => ?_)
  obtain ⟨hb2, rfl, hm9⟩ := hp
  replace hm9 := hm9.symm
  subst hm9
  obtain ⟨k, hk, rfl⟩ := inb_of hb2 (by have := hI.Q6; omega)
  have hk6 : k < 6 := Nat.lt_of_lt_of_le hk hI.Q6
  refine aw_st (st' := []) rfl ?_
  refine aw_aload_n C dX4_give_11 rfl ?_
  refine aw_get C f31 hR.mn rfl dX4_give_12 ?_
  refine aw_get C f86 hR.mt rfl dX4_give_15 ?_
  refine aw_if_eq C (tgt := 31) dX4_give_18 (by decide) (fun c_18 => ?_) (fun c_18 => ?_)
  · have hk6 : k < 6 := Nat.lt_of_lt_of_le hk hI.Q6
    refine aw_aload_n C dX4_give_31 rfl ?_
    refine aw_iload_n C dX4_give_32 rfl ?_
    refine aw_callV (n := 1) C hE (ci := 6) (q := (RX4, TX4, 16)) (k_X4_holderOf (x := (nI k)) B ⟨_, _, hR⟩ hI) gX4_give_X4_holderOf rfl ⟨rfl, rfl⟩ (by decide +kernel) ⟨by decide, by decide⟩ rfl rfl hR.mn rfl (Nat.le_of_ble_eq_true rfl) dX4_give_33 ⟨by decide, by decide⟩ (fun v μ' hp => ?_)
    obtain ⟨rfl, hm9⟩ := hp
    replace hm9 := hm9.symm
    subst hm9
    refine aw_st (st' := [.int (hoF S (nI k))]) rfl ?_
    refine aw_istore C dX4_give_36 (by decide) ?_
    refine aw_iload C dX4_give_38 rfl ?_
    refine aw_iconst C (v := (-1)) (by decide) dX4_give_40 ?_
    refine aw_icmp_eq C (tgt := 55) dX4_give_41 (by decide) (fun c_41 => ?_) (fun c_41 => ?_)
    · have hi : ¬ hoI S (nI k) < S.nA := fun q => by rw [hoF_I, if_pos q] at c_41; exact nI_m1 (by have := hI.A6; omega) c_41
      refine aw_aload_n C dX4_give_55 rfl ?_
      refine aw_iload_n C dX4_give_56 rfl ?_
      refine aw_putE C f96 ftX0 (ty := .int) (by decide +kernel) rfl rfl (hR.ar hj6) (Nat.le_of_ble_eq_true rfl) (fs' := [.int (S.A j 0), .int (S.A j 1), .int (S.A j 2), .int (S.A j 3), .float (S.cr j), .int (nI k), .int (S.A j 6), .int (S.A j 7), .int (S.A j 8), .int (S.A j 9), .int (S.A j 10), .int (S.A j 11)]) rfl dX4_give_57 ?_
      refine aw_iload C dX4_give_60 rfl ?_
      refine aw_iret C hQe ?_ (by omega) (by omega) dX4_give_62
      rw [show ix (nI j) = j from ix_nI hj6 (by decide)]
      have e8 : giA S (nI k) = S := if_neg hi
      unfold giS
      rw [e8]
      exact ⟨by simp [giC, hb1, hb2, c_18], rfl, ⟨_, _, hR.setA hj6 _⟩, (FrC.rf.mp (v5 (by decide) hj6))⟩
    · have hi : hoI S (nI k) < S.nA := Classical.byContradiction fun q => c_41 (by rw [hoF_I, if_neg q])
      have hi6 : hoI S (nI k) < 6 := Nat.lt_of_lt_of_le hi hI.A6
      have e9 : hoF S (nI k) = nI (hoI S (nI k)) := by rw [hoF_I, if_pos hi]
      refine aw_aload_n C dX4_give_44 rfl ?_
      refine aw_get C f11 hR.mn rfl dX4_give_45 ?_
      refine aw_iload C dX4_give_48 rfl ?_
      refine aw_aaldE C (t0 := 3) rfl hR.aA e9 ⟨hi6, by decide⟩ rfl dX4_give_50 ?_
      refine aw_iconst C (v := (-1)) (by decide) dX4_give_51 ?_
      refine aw_putE C f96 ftX0 (ty := .int) (by decide +kernel) rfl rfl (hR.ar hi6) (Nat.le_of_ble_eq_true rfl) (fs' := [.int (S.A (hoI S (nI k)) 0), .int (S.A (hoI S (nI k)) 1), .int (S.A (hoI S (nI k)) 2), .int (S.A (hoI S (nI k)) 3), .float (S.cr (hoI S (nI k))), .int (-1), .int (S.A (hoI S (nI k)) 6), .int (S.A (hoI S (nI k)) 7), .int (S.A (hoI S (nI k)) 8), .int (S.A (hoI S (nI k)) 9), .int (S.A (hoI S (nI k)) 10), .int (S.A (hoI S (nI k)) 11)]) rfl dX4_give_52 ?_
      by_cases hs : j = hoI S (nI k)
      · subst hs
        refine aw_aload_n C dX4_give_55 rfl ?_
        refine aw_iload_n C dX4_give_56 rfl ?_
        refine aw_putE C f96 ftX0 (ty := .int) (by decide +kernel) rfl rfl mp_s (Nat.le_of_ble_eq_true rfl) (fs' := [.int (S.A (hoI S (nI k)) 0), .int (S.A (hoI S (nI k)) 1), .int (S.A (hoI S (nI k)) 2), .int (S.A (hoI S (nI k)) 3), .float (S.cr (hoI S (nI k))), .int (nI k), .int (S.A (hoI S (nI k)) 6), .int (S.A (hoI S (nI k)) 7), .int (S.A (hoI S (nI k)) 8), .int (S.A (hoI S (nI k)) 9), .int (S.A (hoI S (nI k)) 10), .int (S.A (hoI S (nI k)) 11)]) rfl dX4_give_57 ?_
        refine aw_mu mp_mp ?_
        refine aw_iload C dX4_give_60 rfl ?_
        refine aw_iret C hQe ?_ (by omega) (by omega) dX4_give_62
        rw [show ix (nI (hoI S (nI k))) = hoI S (nI k) from ix_nI hi6 (by decide)]
        have e8 : giA S (nI k) = S.wA (fu S.A (hoI S (nI k)) (upd (S.A (hoI S (nI k))) 5 (-1))) := if_pos hi
        unfold giS
        rw [e8]
        have h8 := (hR.setA hi6 (upd (S.A (hoI S (nI k))) 5 (-1))).setA hi6 (upd ((S.wA (fu S.A (hoI S (nI k)) (upd (S.A (hoI S (nI k))) 5 (-1)))).A (hoI S (nI k))) 5 (nI k))
        rw [mp_mp] at h8
        exact ⟨by simp [giC, hb1, hb2, c_18], rfl, ⟨_, _, by
          show RC g L _ _ _ (mp μ (L 5 (hoI S (nI k))) (eAr (upd (upd (S.A (hoI S (nI k))) 5 (-1)) 5 (nI k)) (S.cr (hoI S (nI k)))))
          have h7 : (S.wA (fu S.A (hoI S (nI k)) (upd (S.A (hoI S (nI k))) 5 (-1)))).A (hoI S (nI k)) = upd (S.A (hoI S (nI k))) 5 (-1) := fu_s
          rw [h7] at h8 ⊢
          exact h8⟩, (FrC.rf.mp (v5 (by decide) hi6))⟩
      refine aw_aload_n C dX4_give_55 rfl ?_
      refine aw_iload_n C dX4_give_56 rfl ?_
      refine aw_putE C f96 ftX0 (ty := .int) (by decide +kernel) rfl rfl (mp_k (hR.ar hj6) (hR.li.ne (v5 (by decide) hj6) (v5 (by decide) hi6) (Or.inr hs))) (Nat.le_of_ble_eq_true rfl) (fs' := [.int (S.A j 0), .int (S.A j 1), .int (S.A j 2), .int (S.A j 3), .float (S.cr j), .int (nI k), .int (S.A j 6), .int (S.A j 7), .int (S.A j 8), .int (S.A j 9), .int (S.A j 10), .int (S.A j 11)]) rfl dX4_give_57 ?_
      refine aw_iload C dX4_give_60 rfl ?_
      refine aw_iret C hQe ?_ (by omega) (by omega) dX4_give_62
      rw [show ix (nI j) = j from ix_nI hj6 (by decide)]
      have e8 : giA S (nI k) = S.wA (fu S.A (hoI S (nI k)) (upd (S.A (hoI S (nI k))) 5 (-1))) := if_pos hi
      unfold giS
      rw [e8]
      have h7 : (S.wA (fu S.A (hoI S (nI k)) (upd (S.A (hoI S (nI k))) 5 (-1)))).A j = S.A j := fu_n hs
      rw [h7]
      exact ⟨by simp [giC, hb1, hb2, c_18], rfl, ⟨_, _, (hR.setA hi6 _).setA hj6 _⟩, ((FrC.rf.mp (v5 (by decide) hi6)).mp (v5 (by decide) hj6))⟩
  · refine aw_throw C hE hQ hnt hl9 B.tz (cls := ISE) (text := "a match is on") (ik := 54) (is := 90) (ic := 58) (by decide) (by decide +kernel) (by decide +kernel) B.str90 (by decide +kernel) xb58 B.xIS xo58 dX4_give_21 dX4_give_24 dX4_give_25 dX4_give_27 dX4_give_30 (by decide) (by decide) (by decide) (by decide) (by decide) (by decide) ?_
    exact ⟨⟨by simp [giC, hb1, hb2, c_18], by simp [giC, hb1, hb2, c_18]⟩, ⟨_, _, hR⟩, FrC.rf⟩
set_option maxRecDepth 100000 in
set_option maxHeartbeats 4000000 in
theorem k_X4_match (hl9 : l.stackTraces = false) (B : Base s0) {μ : mu} {L : Nat → Nat → Nat} {S : SS} (h0 : RX g L S μ) (hI : Iv S) {x y : Int32} : Cy l yX4_match wsX4_match (rmOf 7 3 18 130) s0 D (tyL g) [.ref (L 0 0), .int x, .int y] μ 3 18 (fun v μ' => maC S x y = 0 ∧ v = some (.int (S.c 13 + 1)) ∧ RX g L (maS S x y) μ' ∧ FrC L μ μ') (fun E μ' => px9 [IOB, IAE, ISE] (maC S x y) E ∧ RX g L S μ' ∧ FrC L μ μ') := by
  refine Cy.of (cc := cX4_match) (own := RX4) (maxL := 5) (ret := (some .int)) (by decide) rfl rfl (Nat.le_of_ble_eq_true rfl) ?_
  intro p e s m args below meth c Q C hE hnt hQ hQe
  obtain ⟨fh, fv, hR⟩ := h0
  have in_RX4 : ∀ w ∈ u_ws RX4 TX4 16, w ∈ wsX4_match := by decide +kernel
  have in_RX2 : ∀ w ∈ u_ws RX2 TX2 10, w ∈ wsX4_match := by decide +kernel
  have in_RX0 : ∀ w ∈ u_ws RX0 TX0 12, w ∈ wsX4_match := by decide +kernel
  have f31 : FL wsX4_match RX4 31 6 "ArrowField" RX4 TX4 16 12 := ⟨in_RX4, rfl, by decide, by decide +kernel, Or.inl rfl⟩
  have f86 : FL wsX4_match RX4 86 4 "ArrowField$Match" RX2 TX2 10 0 := ⟨in_RX2, rfl, by decide, by decide +kernel, Or.inl rfl⟩
  have f96 : FL wsX4_match RX4 96 2 "ArrowField$Archer" RX0 TX0 12 5 := ⟨in_RX0, rfl, by decide, by decide +kernel, Or.inl rfl⟩
  have f187 : FL wsX4_match RX4 187 6 "ArrowField" RX4 TX4 16 13 := ⟨in_RX4, rfl, by decide, by decide +kernel, Or.inl rfl⟩
  refine aw_aload_n C dX4_match_0 rfl ?_
  refine aw_iload_n C dX4_match_1 rfl ?_
  refine ax_callV (n := 1) C hE hQ hnt (ci := 6) (q := (RX4, TX4, 16)) (k_X4_archerNumbered (x := x) hl9 B ⟨_, _, hR⟩ hI) gX4_match_X4_archerNumbered rfl ⟨rfl, rfl⟩ (by decide +kernel) ⟨by decide, by decide⟩ rfl rfl hR.mn rfl (Nat.le_of_ble_eq_true rfl) dX4_match_2 ⟨by decide, by decide⟩ ⟨by decide, by decide⟩ (fun E9 μ9 hp => by obtain ⟨rfl, hn, rfl⟩ := hp; exact ⟨⟨by simp [maC, hn], by simp [maC, hn]⟩, ⟨_, _, hR⟩, FrC.rf⟩) (fun v μ' hp => ?_)
  obtain ⟨hb1, ⟨j, hj, rfl, rfl⟩, hm9⟩ := hp
  replace hm9 := hm9.symm
  subst hm9
  refine aw_st (st' := [.ref (L 5 j)]) rfl ?_
  have hj6 : j < 6 := Nat.lt_of_lt_of_le hj hI.A6
  refine aw_astore_n C dX4_match_5 (by decide) ?_
  refine aw_aload_n C dX4_match_6 rfl ?_
  refine aw_iload_n C dX4_match_7 rfl ?_
  refine ax_callV (n := 1) C hE hQ hnt (ci := 6) (q := (RX4, TX4, 16)) (k_X4_archerNumbered (x := y) hl9 B ⟨_, _, hR⟩ hI) gX4_match_X4_archerNumbered rfl ⟨rfl, rfl⟩ (by decide +kernel) ⟨by decide, by decide⟩ rfl rfl hR.mn rfl (Nat.le_of_ble_eq_true rfl) dX4_match_8 ⟨by decide, by decide⟩ ⟨by decide, by decide⟩ (fun E9 μ9 hp => by obtain ⟨rfl, hn, rfl⟩ := hp; exact ⟨⟨by simp [maC, hb1, hn], by simp [maC, hb1, hn]⟩, ⟨_, _, hR⟩, FrC.rf⟩) (fun v μ' hp => ?_)
  obtain ⟨hb2, ⟨k, hk, rfl, rfl⟩, hm9⟩ := hp
  replace hm9 := hm9.symm
  subst hm9
  refine aw_st (st' := [.ref (L 5 k)]) rfl ?_
  have hk6 : k < 6 := Nat.lt_of_lt_of_le hk hI.A6
  refine aw_astore C dX4_match_11 (by decide) ?_
  have ej6 : ix (nI j) = j := ix_nI hj6 (by decide)
  have ek6 : ix (nI k) = k := ix_nI hk6 (by decide)
  refine aw_iload_n C dX4_match_13 rfl ?_
  refine aw_iload_n C dX4_match_14 rfl ?_
  refine aw_icmp_ne C (tgt := 28) dX4_match_15 (by decide) (fun c_15 => ?_) (fun c_15 => ?_)
  · refine aw_aload_n C dX4_match_28 rfl ?_
    refine aw_get C f31 hR.mn rfl dX4_match_29 ?_
    refine aw_get C f86 hR.mt rfl dX4_match_32 ?_
    refine aw_if_eq C (tgt := 48) dX4_match_35 (by decide) (fun c_35 => ?_) (fun c_35 => ?_)
    · refine aw_aload_n C dX4_match_48 rfl ?_
      refine aw_get C f96 (hR.ar hj6) rfl dX4_match_49 ?_
      refine aw_iconst C (v := (-1)) (by decide) dX4_match_52 ?_
      refine aw_icmp_eq C (tgt := 65) dX4_match_53 (by decide) (fun c_53 => ?_) (fun c_53 => ?_)
      · refine aw_throw C hE hQ hnt hl9 B.tz (cls := ISE) (text := "an archer has no quiver") (ik := 54) (is := 181) (ic := 58) (by decide) (by decide +kernel) (by decide +kernel) B.str181 (by decide +kernel) xb58 B.xIS xo58 dX4_match_65 dX4_match_68 dX4_match_69 dX4_match_71 dX4_match_74 (by decide) (by decide) (by decide) (by decide) (by decide) (by decide) ?_
        exact ⟨⟨by simp [maC, hb1, hb2, ej6, ek6, c_15, c_35, c_53], by simp [maC, hb1, hb2, ej6, ek6, c_15, c_35, c_53]⟩, ⟨_, _, hR⟩, FrC.rf⟩
      · refine aw_aload C dX4_match_56 rfl ?_
        refine aw_get C f96 (hR.ar hk6) rfl dX4_match_58 ?_
        refine aw_iconst C (v := (-1)) (by decide) dX4_match_61 ?_
        refine aw_icmp_ne C (tgt := 75) dX4_match_62 (by decide) (fun c_62 => ?_) (fun c_62 => ?_)
        · refine aw_aload_n C dX4_match_75 rfl ?_
          refine aw_get C f31 hR.mn rfl dX4_match_76 ?_
          refine aw_iload_n C dX4_match_79 rfl ?_
          refine aw_iload_n C dX4_match_80 rfl ?_
          refine aw_callV (n := 2) C hE (ci := 4) (q := (RX2, TX2, 10)) (k_X2_begin (x := nI j) (y := nI k) B hR.mt) gX4_match_X2_begin rfl ⟨rfl, rfl⟩ (by decide +kernel) ⟨by decide, by decide⟩ rfl rfl hR.mt rfl (Nat.le_of_ble_eq_true rfl) dX4_match_81 ⟨by decide, by decide⟩ (fun v μ' hp => ?_)
          obtain ⟨rfl, hm9⟩ := hp
          replace hm9 := hm9.symm
          subst hm9
          refine aw_st (st' := []) rfl ?_
          refine aw_aload_n C dX4_match_84 rfl ?_
          refine aw_dup C rfl dX4_match_85 ?_
          refine aw_get C f187 (mp_k hR.mn (hR.li.ne (v0 (by decide)) (v0 (by decide)) (Or.inl (by decide)))) rfl dX4_match_86 ?_
          refine aw_iconst C (v := 1) (by decide) dX4_match_89 ?_
          refine aw_iadd C dX4_match_90 ?_
          refine aw_putE C f187 ftX4 (ty := .int) (by decide +kernel) rfl rfl (mp_k hR.mn (hR.li.ne (v0 (by decide)) (v0 (by decide)) (Or.inl (by decide)))) (Nat.le_of_ble_eq_true rfl) (fs' := [.ref (L 1 0), .ref (L 2 0), .int (S.c 2), .int (S.c 3), .int (S.c 4), .int (S.c 5), .int (S.c 6), .int (S.c 7), .int (S.c 8), .int (S.c 9), .int (S.c 10), .int (S.c 11), .ref (L 3 0), .int ((S.c 13) + 1), .int (S.c 14), .ref (L 4 0)]) rfl dX4_match_91 ?_
          refine aw_aload_n C dX4_match_94 rfl ?_
          refine aw_get C f187 mp_s rfl dX4_match_95 ?_
          refine aw_iret C hQe ?_ (by omega) (by omega) dX4_match_98
          exact ⟨by simp [maC, hb1, hb2, c_15, c_35, c_53, c_62, ej6, ek6], rfl, ⟨_, _, (hR.setT _).setMn _⟩, ((FrC.rf.mp (v0 (by decide))).mp (v0 (by decide)))⟩
        · refine aw_throw C hE hQ hnt hl9 B.tz (cls := ISE) (text := "an archer has no quiver") (ik := 54) (is := 181) (ic := 58) (by decide) (by decide +kernel) (by decide +kernel) B.str181 (by decide +kernel) xb58 B.xIS xo58 dX4_match_65 dX4_match_68 dX4_match_69 dX4_match_71 dX4_match_74 (by decide) (by decide) (by decide) (by decide) (by decide) (by decide) ?_
          exact ⟨⟨by simp [maC, hb1, hb2, ej6, ek6, c_15, c_35, c_53, c_62], by simp [maC, hb1, hb2, ej6, ek6, c_15, c_35, c_53, c_62]⟩, ⟨_, _, hR⟩, FrC.rf⟩
    · refine aw_throw C hE hQ hnt hl9 B.tz (cls := ISE) (text := "a match is on") (ik := 54) (is := 90) (ic := 58) (by decide) (by decide +kernel) (by decide +kernel) B.str90 (by decide +kernel) xb58 B.xIS xo58 dX4_match_38 dX4_match_41 dX4_match_42 dX4_match_44 dX4_match_47 (by decide) (by decide) (by decide) (by decide) (by decide) (by decide) ?_
      exact ⟨⟨by simp [maC, hb1, hb2, ej6, ek6, c_15, c_35], by simp [maC, hb1, hb2, ej6, ek6, c_15, c_35]⟩, ⟨_, _, hR⟩, FrC.rf⟩
  · refine aw_throw C hE hQ hnt hl9 B.tz (cls := IAE) (text := "nobody shoots a match alone") (ik := 176) (is := 178) (ic := 180) (by decide) (by decide +kernel) (by decide +kernel) B.str178 (by decide +kernel) xb180 B.xIA xo180 dX4_match_18 dX4_match_21 dX4_match_22 dX4_match_24 dX4_match_27 (by decide) (by decide) (by decide) (by decide) (by decide) (by decide) ?_
    exact ⟨⟨by simp [maC, hb1, hb2, ej6, ek6, c_15], by simp [maC, hb1, hb2, ej6, ek6, c_15]⟩, ⟨_, _, hR⟩, FrC.rf⟩
set_option maxRecDepth 100000 in
set_option maxHeartbeats 4000000 in
theorem k_X4_splitWhatIsHit (B : Base s0) {μ : mu} {L : Nat → Nat → Nat} {S : SS} {fh fv : UInt64} (hR : RC g L S fh fv μ) (hQ3 : S.c 3 = nI S.nQ) (hQ6 : S.nQ ≤ 6) (hB : (∀ j k, Eb 1412 (S.H j k) ∧ Eb 1412 (S.V j k))) (bh : Eb 1412 fh) (bv : Eb 1412 fv)  : Ct l yX4_splitWhatIsHit wsX4_splitWhatIsHit (rmOf 2 0 0 100) s0 D (tyL g) [.ref (L 0 0)] μ 0 0 (fun v μ' => v = none ∧ RC g L (spS S fh fv) fh fv μ' ∧ FrC L μ μ') := by
  refine Ct.of (cc := cX4_splitWhatIsHit) (own := RX4) (maxL := 3) (ret := none) (by decide) rfl rfl (Nat.le_of_ble_eq_true rfl) ?_
  intro p e s m args below meth c Q C hE hnm hQe
  have in_RX4 : ∀ w ∈ u_ws RX4 TX4 16, w ∈ wsX4_splitWhatIsHit := by decide +kernel
  have in_RX3 : ∀ w ∈ u_ws RX3 TX3 5, w ∈ wsX4_splitWhatIsHit := by decide +kernel
  have f67 : FL wsX4_splitWhatIsHit RX4 67 6 "ArrowField" RX4 TX4 16 3 := ⟨in_RX4, rfl, by decide, by decide +kernel, Or.inl rfl⟩
  have f17 : FL wsX4_splitWhatIsHit RX4 17 6 "ArrowField" RX4 TX4 16 1 := ⟨in_RX4, rfl, by decide, by decide +kernel, Or.inl rfl⟩
  have f41 : FL wsX4_splitWhatIsHit RX4 41 6 "ArrowField" RX4 TX4 16 15 := ⟨in_RX4, rfl, by decide, by decide +kernel, Or.inl rfl⟩
  have f130 : FL wsX4_splitWhatIsHit RX4 130 5 "ArrowField$Quiver" RX3 TX3 5 2 := ⟨in_RX3, rfl, by decide, by decide +kernel, Or.inl rfl⟩
  have f233 : FL wsX4_splitWhatIsHit RX4 233 6 "ArrowField" RX4 TX4 16 10 := ⟨in_RX4, rfl, by decide, by decide +kernel, Or.inl rfl⟩
  refine aw_iconst C (v := 0) (by decide) dX4_splitWhatIsHit_0 ?_
  refine aw_istore_n C dX4_splitWhatIsHit_1 (by decide) ?_
  refine aw_lv (lv' := [(0, .ref (L 0 0)), (1, .int 0)]) ⟨rfl, rfl, trivial⟩ ?_
  have loop2 : ∀ (n : Nat) (i : Nat) (xi : Int32), S.nQ - i = n → xi = nI i → i ≤ S.nQ → fsI (fun i => decide (¬ fstN (hitP fh fv (S.F i) (S.H i) (S.V i)) 12 0 = -1)) (S.nQ - i) i = spQ S fh fv → Aw p l e (rmOf 2 0 0 100) s m args below meth c Q s0.heap.size D 3 μ 0 0 2 [(0, .ref (L 0 0)), (1, .int xi)] [] := by
    intro n
    induction n using Nat.strongRecOn with
    | _ n ih =>
      intro i xi hn hx hk hs
      refine aw_iload_n C dX4_splitWhatIsHit_2 rfl ?_
      refine aw_aload_n C dX4_splitWhatIsHit_3 rfl ?_
      refine aw_get C f67 hR.mn rfl dX4_splitWhatIsHit_4 ?_
      refine aw_icmp_ge C (tgt := 58) dX4_splitWhatIsHit_7 (by decide) (fun c_7 => ?_) (fun c_7 => ?_)
      · refine aw_vret C hQe ?_ (by omega) (by omega) dX4_splitWhatIsHit_58
        have e8 : i = S.nQ := by have := ge_of (n := S.nQ) hx (by omega) (by omega) (by rw [hQ3] at c_7; exact c_7); omega
        have e3 : spS S fh fv = S := by
          unfold spS
          rw [if_neg (by rw [← hs, e8, Nat.sub_self]; exact Nat.lt_irrefl _)]
        rw [e3]
        exact ⟨rfl, hR, FrC.rf⟩
      · have hi : i < S.nQ := lt_of (n := S.nQ) hx (by omega) (by omega) (by rw [hQ3] at c_7; exact c_7)
        have hi6 : i < 6 := Nat.lt_of_lt_of_le hi hQ6
        subst hx
        refine aw_aload_n C dX4_splitWhatIsHit_10 rfl ?_
        refine aw_get C f17 hR.mn rfl dX4_splitWhatIsHit_11 ?_
        refine aw_iload_n C dX4_splitWhatIsHit_14 rfl ?_
        refine aw_aaldE C (t0 := 4) rfl hR.aQ rfl ⟨hi6, by decide⟩ rfl dX4_splitWhatIsHit_15 ?_
        refine aw_aload_n C dX4_splitWhatIsHit_16 rfl ?_
        refine aw_get C f41 hR.mn rfl dX4_splitWhatIsHit_17 ?_
        refine aw_callV (n := 1) C hE (ci := 5) (q := (RX3, TX3, 5)) (k_X3_firstHitBy (f := S.F i) (h := fh) (v := fv) (H := S.H i) (V := S.V i) B (hR.qu hi6) (hR.st hi6) (hR.hh hi6) (hR.vv hi6) hR.fl (bh.up (by decide)) (bv.up (by decide)) (fun k _ => (hB i k).1.up (by decide)) (fun k _ => (hB i k).2.up (by decide))) gX4_splitWhatIsHit_X3_firstHitBy rfl ⟨rfl, rfl⟩ (by decide +kernel) ⟨by decide, by decide⟩ rfl rfl (hR.qu hi6) rfl (Nat.le_of_ble_eq_true rfl) dX4_splitWhatIsHit_20 ⟨by decide, by decide⟩ (fun v μ' hp => ?_)
        obtain ⟨rfl, hm9⟩ := hp
        replace hm9 := hm9.symm
        subst hm9
        refine aw_st (st' := [.int (fstN (hitP fh fv (S.F i) (S.H i) (S.V i)) 12 0)]) rfl ?_
        refine aw_istore_n C dX4_splitWhatIsHit_23 (by decide) ?_
        refine aw_iload_n C dX4_splitWhatIsHit_24 rfl ?_
        refine aw_iconst C (v := (-1)) (by decide) dX4_splitWhatIsHit_25 ?_
        refine aw_icmp_eq C (tgt := 52) dX4_splitWhatIsHit_26 (by decide) (fun c_26 => ?_) (fun c_26 => ?_)
        · refine aw_iinc C dX4_splitWhatIsHit_52 rfl (by decide) ?_
          refine aw_goto C (tgt := 2) dX4_splitWhatIsHit_55 (by decide) ?_
          have hs9 : fsI (fun i => decide (¬ fstN (hitP fh fv (S.F i) (S.H i) (S.V i)) 12 0 = -1)) (S.nQ - (i + 1)) (i + 1) = spQ S fh fv := by
            rw [← hs, show S.nQ - i = (S.nQ - (i + 1)) + 1 by omega]
            exact (if_neg (fun q => absurd c_26 (of_decide_eq_true q))).symm
          refine aw_lv (lv' := [(0, .ref (L 0 0)), (1, .int (nI i + Int32.ofInt 1))]) ⟨rfl, rfl, trivial⟩ ?_
          exact ih _ (by omega) (i + 1) (nI i + Int32.ofInt 1) rfl (nI_inc i) (by omega) hs9
        · have e1 : spQ S fh fv = i := by
            rw [← hs, show S.nQ - i = (S.nQ - (i + 1)) + 1 by omega]
            exact if_pos (decide_eq_true c_26)
          have e2 : fstN (hitP fh fv (S.F i) (S.H i) (S.V i)) 12 0 = nI (fsI (hitP fh fv (S.F i) (S.H i) (S.V i)) 12 0) ∧ fsI (hitP fh fv (S.F i) (S.H i) (S.V i)) 12 0 < 12 := by
            rw [fstN_I] at c_26 ⊢
            by_cases z : fsI (hitP fh fv (S.F i) (S.H i) (S.V i)) 12 0 < 0 + 12
            · rw [if_pos z]; exact ⟨rfl, by omega⟩
            · rw [if_neg z] at c_26; exact absurd rfl c_26
          obtain ⟨k, hk2, hk12⟩ : ∃ k, fstN (hitP fh fv (S.F i) (S.H i) (S.V i)) 12 0 = nI k ∧ k < 12 := ⟨_, e2⟩
          refine aw_aload_n C dX4_splitWhatIsHit_29 rfl ?_
          refine aw_get C f17 hR.mn rfl dX4_splitWhatIsHit_30 ?_
          refine aw_iload_n C dX4_splitWhatIsHit_33 rfl ?_
          refine aw_aaldE C (t0 := 4) rfl hR.aQ rfl ⟨hi6, by decide⟩ rfl dX4_splitWhatIsHit_34 ?_
          refine aw_get C f130 (hR.qu hi6) rfl dX4_splitWhatIsHit_35 ?_
          refine aw_iload_n C dX4_splitWhatIsHit_38 rfl ?_
          refine aw_iconst C (v := 3) (by decide) dX4_splitWhatIsHit_39 ?_
          refine aw_iastE C (hR.st hi6) hk2 ⟨hk12, by decide⟩ dX4_splitWhatIsHit_40 ?_
          refine aw_aload_n C dX4_splitWhatIsHit_41 rfl ?_
          refine aw_dup C rfl dX4_splitWhatIsHit_42 ?_
          refine aw_get C f233 (mp_k hR.mn (hR.li.ne (v0 (by decide)) (v5 (by decide) hi6) (Or.inl (by decide)))) rfl dX4_splitWhatIsHit_43 ?_
          refine aw_iconst C (v := 1) (by decide) dX4_splitWhatIsHit_46 ?_
          refine aw_iadd C dX4_splitWhatIsHit_47 ?_
          refine aw_putE C f233 ftX4 (ty := .int) (by decide +kernel) rfl rfl (mp_k hR.mn (hR.li.ne (v0 (by decide)) (v5 (by decide) hi6) (Or.inl (by decide)))) (Nat.le_of_ble_eq_true rfl) (fs' := [.ref (L 1 0), .ref (L 2 0), .int (S.c 2), .int (S.c 3), .int (S.c 4), .int (S.c 5), .int (S.c 6), .int (S.c 7), .int (S.c 8), .int (S.c 9), .int ((S.c 10) + 1), .int (S.c 11), .ref (L 3 0), .int (S.c 13), .int (S.c 14), .ref (L 4 0)]) rfl dX4_splitWhatIsHit_48 ?_
          refine aw_vret C hQe ?_ (by omega) (by omega) dX4_splitWhatIsHit_51
          have e3 : spS S fh fv = (S.wF (fu S.F i (upd (S.F i) k 3))).wc (upd S.c 10 (S.c 10 + 1)) := by
            have e4 : spK S fh fv = k := by unfold spK; rw [e1, hk2]; exact ix_nI hk12 (by decide)
            unfold spS
            rw [e4, e1, if_pos hi]
          rw [e3]
          exact ⟨rfl, (hR.setSt hi6 _).setMn _, ((FrC.rf.mp (v5 (by decide) hi6)).mp (v0 (by decide)))⟩
  exact loop2 _ 0 0 rfl rfl (Nat.zero_le _) rfl
set_option maxRecDepth 100000 in
set_option maxHeartbeats 4000000 in
theorem k_X4_countForMatch (B : Base s0) {μ : mu} {L : Nat → Nat → Nat} {S : SS} {fh fv : UInt64} {sc : Int32} (hR : RC g L S fh fv μ) (hA6 : S.nA ≤ 6) {k : Nat} (hk : S.t 7 = nI k) (hk4 : k < 4) (hln : Nn S.la) (bh : Eb 1412 fh) (bv : Eb 1412 fv) (hW : ∀ d, cmR S sc d = -1 ∨ ∃ i, i < S.nA ∧ cmR S sc d = nI i)  : Ct l yX4_countForMatch wsX4_countForMatch (rmOf 3 0 0 140) s0 D (tyL g) [.ref (L 0 0), .int sc] μ 0 0 (fun v μ' => v = none ∧ RC g L (cmS S sc (farF fh fv)) fh fv μ' ∧ FrC L μ μ') := by
  refine Ct.of (cc := cX4_countForMatch) (own := RX4) (maxL := 3) (ret := none) (by decide) rfl rfl (Nat.le_of_ble_eq_true rfl) ?_
  intro p e s m args below meth c Q C hE hnm hQe
  have in_RX4 : ∀ w ∈ u_ws RX4 TX4 16, w ∈ wsX4_countForMatch := by decide +kernel
  have in_RX2 : ∀ w ∈ u_ws RX2 TX2 10, w ∈ wsX4_countForMatch := by decide +kernel
  have in_RX0 : ∀ w ∈ u_ws RX0 TX0 12, w ∈ wsX4_countForMatch := by decide +kernel
  have f31 : FL wsX4_countForMatch RX4 31 6 "ArrowField" RX4 TX4 16 12 := ⟨in_RX4, rfl, by decide, by decide +kernel, Or.inl rfl⟩
  have f41 : FL wsX4_countForMatch RX4 41 6 "ArrowField" RX4 TX4 16 15 := ⟨in_RX4, rfl, by decide, by decide +kernel, Or.inl rfl⟩
  have f86 : FL wsX4_countForMatch RX4 86 4 "ArrowField$Match" RX2 TX2 10 0 := ⟨in_RX2, rfl, by decide, by decide +kernel, Or.inl rfl⟩
  have f35 : FL wsX4_countForMatch RX4 35 6 "ArrowField" RX4 TX4 16 14 := ⟨in_RX4, rfl, by decide, by decide +kernel, Or.inl rfl⟩
  have f11 : FL wsX4_countForMatch RX4 11 6 "ArrowField" RX4 TX4 16 0 := ⟨in_RX4, rfl, by decide, by decide +kernel, Or.inl rfl⟩
  have f207 : FL wsX4_countForMatch RX4 207 2 "ArrowField$Archer" RX0 TX0 12 8 := ⟨in_RX0, rfl, by decide, by decide +kernel, Or.inl rfl⟩
  have hfn : Nn (farF fh fv) := (farF_ok (bh.up (by decide)) (bv.up (by decide))).2.2.2.nn (by decide)
  refine aw_aload_n C dX4_countForMatch_0 rfl ?_
  refine aw_get C f31 hR.mn rfl dX4_countForMatch_1 ?_
  refine aw_iload_n C dX4_countForMatch_4 rfl ?_
  refine aw_aload_n C dX4_countForMatch_5 rfl ?_
  refine aw_get C f41 hR.mn rfl dX4_countForMatch_6 ?_
  refine aw_callV (n := 0) C hE (ci := 3) (q := (RX1, TX1, 2)) (k_X1_farness B hR.fl (bh.up (by decide)) (bv.up (by decide))) gX4_countForMatch_X1_farness rfl ⟨rfl, rfl⟩ (by decide +kernel) ⟨by decide, by decide⟩ rfl rfl hR.fl rfl (Nat.le_of_ble_eq_true rfl) dX4_countForMatch_9 ⟨by decide, by decide⟩ (fun v μ' hp => ?_)
  obtain ⟨rfl, hm9⟩ := hp
  replace hm9 := hm9.symm
  subst hm9
  refine aw_st (st' := [.double (farF fh fv), .int sc, .ref (L 3 0)]) rfl ?_
  refine aw_callV (n := 2) C hE (ci := 4) (q := (RX2, TX2, 10)) (k_X2_count (t := S.t) (la := S.la) (x := sc) (d := farF fh fv) B hR.mt hk hk4 hfn hln) gX4_countForMatch_X2_count rfl ⟨rfl, rfl⟩ (by decide +kernel) ⟨by decide, by decide⟩ rfl rfl hR.mt rfl (Nat.le_of_ble_eq_true rfl) dX4_countForMatch_12 ⟨by decide, by decide⟩ (fun v μ' hp => ?_)
  obtain ⟨rfl, hm9⟩ := hp
  replace hm9 := hm9.symm
  subst hm9
  refine aw_mu (show mp μ (L 3 0) _ = mp μ (L 3 0) (eMt (cmT S sc (farF fh fv)).t (cmT S sc (farF fh fv)).la) by unfold cmT; rw [hk, ix_nI hk4 (by decide)]) ?_
  refine aw_st (show _ = [Value.int (cmR S sc (farF fh fv))] by unfold cmR; rw [hk, ix_nI hk4 (by decide)]; rfl) ?_
  refine aw_st (st' := [.int (cmR S sc (farF fh fv))]) rfl ?_
  refine aw_istore_n C dX4_countForMatch_15 (by decide) ?_
  refine aw_iload_n C dX4_countForMatch_16 rfl ?_
  refine aw_iconst C (v := (-1)) (by decide) dX4_countForMatch_17 ?_
  refine aw_icmp_eq C (tgt := 49) dX4_countForMatch_18 (by decide) (fun c_18 => ?_) (fun c_18 => ?_)
  · refine aw_vret C hQe ?_ (by omega) (by omega) dX4_countForMatch_49
    exact ⟨rfl, by unfold cmS; rw [if_pos c_18]; exact hR.setMt _ _, (FrC.rf.mp (v0 (by decide)))⟩
  · obtain ⟨i, hi, hi2⟩ : ∃ i, i < S.nA ∧ cmR S sc (farF fh fv) = nI i := (hW (farF fh fv)).resolve_left c_18
    have hi6 : i < 6 := Nat.lt_of_lt_of_le hi hA6
    refine aw_aload_n C dX4_countForMatch_21 rfl ?_
    refine aw_get C f31 (mp_k hR.mn (hR.li.ne (v0 (by decide)) (v0 (by decide)) (Or.inl (by decide)))) rfl dX4_countForMatch_22 ?_
    refine aw_iconst C (v := 0) (by decide) dX4_countForMatch_25 ?_
    refine aw_putE C f86 ftX2 (ty := .boolean) (by decide +kernel) rfl rfl mp_s (Nat.le_of_ble_eq_true rfl) (fs' := [.int 0, .int (((cmT S sc (farF fh fv)).t) 1), .int (((cmT S sc (farF fh fv)).t) 2), .int (((cmT S sc (farF fh fv)).t) 3), .int (((cmT S sc (farF fh fv)).t) 4), .int (((cmT S sc (farF fh fv)).t) 5), .int (((cmT S sc (farF fh fv)).t) 6), .int (((cmT S sc (farF fh fv)).t) 7), .int (((cmT S sc (farF fh fv)).t) 8), .double ((cmT S sc (farF fh fv)).la)]) rfl dX4_countForMatch_26 ?_
    refine aw_mu mp_mp ?_
    refine aw_aload_n C dX4_countForMatch_29 rfl ?_
    refine aw_iload_n C dX4_countForMatch_30 rfl ?_
    refine aw_putE C f35 ftX4 (ty := .int) (by decide +kernel) rfl rfl (mp_k hR.mn (hR.li.ne (v0 (by decide)) (v0 (by decide)) (Or.inl (by decide)))) (Nat.le_of_ble_eq_true rfl) (fs' := [.ref (L 1 0), .ref (L 2 0), .int (S.c 2), .int (S.c 3), .int (S.c 4), .int (S.c 5), .int (S.c 6), .int (S.c 7), .int (S.c 8), .int (S.c 9), .int (S.c 10), .int (S.c 11), .ref (L 3 0), .int (S.c 13), .int (cmR S sc (farF fh fv)), .ref (L 4 0)]) rfl dX4_countForMatch_31 ?_
    refine aw_aload_n C dX4_countForMatch_34 rfl ?_
    refine aw_get C f11 mp_s rfl dX4_countForMatch_35 ?_
    refine aw_iload_n C dX4_countForMatch_38 rfl ?_
    refine aw_aaldE C (t0 := 3) rfl (mp_k (mp_k hR.aA (hR.li.ne (v0 (by decide)) (v0 (by decide)) (Or.inl (by decide)))) (hR.li.ne (v0 (by decide)) (v0 (by decide)) (Or.inl (by decide)))) hi2 ⟨hi6, by decide⟩ rfl dX4_countForMatch_39 ?_
    refine aw_dup C rfl dX4_countForMatch_40 ?_
    refine aw_get C f207 (mp_k (mp_k (hR.ar hi6) (hR.li.ne (v5 (by decide) hi6) (v0 (by decide)) (Or.inl (by decide)))) (hR.li.ne (v5 (by decide) hi6) (v0 (by decide)) (Or.inl (by decide)))) rfl dX4_countForMatch_41 ?_
    refine aw_iconst C (v := 1) (by decide) dX4_countForMatch_44 ?_
    refine aw_iadd C dX4_countForMatch_45 ?_
    refine aw_putE C f207 ftX0 (ty := .int) (by decide +kernel) rfl rfl (mp_k (mp_k (hR.ar hi6) (hR.li.ne (v5 (by decide) hi6) (v0 (by decide)) (Or.inl (by decide)))) (hR.li.ne (v5 (by decide) hi6) (v0 (by decide)) (Or.inl (by decide)))) (Nat.le_of_ble_eq_true rfl) (fs' := [.int (S.A i 0), .int (S.A i 1), .int (S.A i 2), .int (S.A i 3), .float (S.cr i), .int (S.A i 5), .int (S.A i 6), .int (S.A i 7), .int ((S.A i 8) + 1), .int (S.A i 9), .int (S.A i 10), .int (S.A i 11)]) rfl dX4_countForMatch_46 ?_
    refine aw_vret C hQe ?_ (by omega) (by omega) dX4_countForMatch_49
    have e3 : cmS S sc (farF fh fv) = cmW (cmT S sc (farF fh fv)) (cmR S sc (farF fh fv)) := if_neg c_18
    have e4 : ix (cmR S sc (farF fh fv)) = i := by rw [hi2]; exact ix_nI hi6 (by decide)
    rw [e3]
    unfold cmW
    rw [e4]
    exact ⟨rfl, ((hR.setMt (upd (cmT S sc (farF fh fv)).t 0 0) (cmT S sc (farF fh fv)).la).setMn (upd S.c 14 (cmR S sc (farF fh fv)))).setA hi6 _, (((FrC.rf.mp (v0 (by decide))).mp (v0 (by decide))).mp (v5 (by decide) hi6))⟩
end KO
