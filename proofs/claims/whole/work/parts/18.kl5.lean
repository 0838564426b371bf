/-! ===== ArrowField: the shot ===== -/
theorem shC_0 {S : SS} {x y : Int32} (h1 : inb x S.nA = true) (h2 : inb y 12 = true) (h : S.c 7 = 0 ∧ ¬ S.A (ix x) 5 = -1 ∧ S.F (ix (S.A (ix x) 5)) (ix y) = 0 ∧ (S.t 0 = 0 ∨ trF S = x)) : shC S x y = 0 := by
  unfold shC
  rw [if_pos (by rw [h1, h2]; rfl), if_pos h]
theorem shC_2 {S : SS} {x y : Int32} (h1 : inb x S.nA = true) (h2 : inb y 12 = true) (h : ¬ (S.c 7 = 0 ∧ ¬ S.A (ix x) 5 = -1 ∧ S.F (ix (S.A (ix x) 5)) (ix y) = 0 ∧ (S.t 0 = 0 ∨ trF S = x))) : shC S x y = 2 := by
  unfold shC
  rw [if_pos (by rw [h1, h2]; rfl), if_neg h]
theorem spS_t (S : SS) (h v : UInt64) : (spS S h v).t = S.t := by unfold spS; split <;> rfl
theorem spS_la (S : SS) (h v : UInt64) : (spS S h v).la = S.la := by unfold spS; split <;> rfl
theorem spS_A (S : SS) (h v : UInt64) : (spS S h v).A = S.A := by unfold spS; split <;> rfl
theorem spS_cr (S : SS) (h v : UInt64) : (spS S h v).cr = S.cr := by unfold spS; split <;> rfl
theorem spS_q (S : SS) (h v : UInt64) : (spS S h v).q = S.q := by unfold spS; split <;> rfl
theorem spS_H (S : SS) (h v : UInt64) : (spS S h v).H = S.H := by unfold spS; split <;> rfl
theorem spS_V (S : SS) (h v : UInt64) : (spS S h v).V = S.V := by unfold spS; split <;> rfl
theorem spS_nA (S : SS) (h v : UInt64) : (spS S h v).nA = S.nA := by unfold spS; split <;> rfl
theorem spS_nQ (S : SS) (h v : UInt64) : (spS S h v).nQ = S.nQ := by unfold spS; split <;> rfl
theorem spS_c (S : SS) (h v : UInt64) {k : Nat} (hk : k ≠ 10) : (spS S h v).c k = S.c k := by
  unfold spS
  split
  · exact if_neg hk
  · rfl
theorem cmR_ok {S : SS} (hI : Iv S) (h0 : ¬ S.t 0 = 0) (sc : Int32) (d : UInt64) : cmR S sc d = -1 ∨ ∃ i, i < S.nA ∧ cmR S sc d = nI i := by
  obtain ⟨-, k, i, j, hk4, hk, hi, h1, hj, h2, -, -⟩ := hI.on h0
  have key : ∀ r : Int32, (r = -1 ∨ r = S.t 1 ∨ r = S.t 2) → r = -1 ∨ ∃ i, i < S.nA ∧ r = nI i := by
    intro r hr
    rcases hr with h | h | h
    · exact Or.inl h
    · exact Or.inr ⟨i, hi, h.trans h1⟩
    · exact Or.inr ⟨j, hj, h.trans h2⟩
  refine key _ ?_
  unfold cmR ctR
  split
  · split
    · unfold esR
      have e1 : ctS S.t sc (ix (S.t 7)) 1 = S.t 1 := rfl
      have e2 : ctS S.t sc (ix (S.t 7)) 2 = S.t 2 := rfl
      rw [e1, e2]
      split <;> split
      · exact Or.inl rfl
      · exact Or.inr (Or.inr rfl)
      · exact Or.inr (Or.inl rfl)
      · exact Or.inl rfl
    · exact Or.inl rfl
  · unfold clR
    split
    · exact Or.inl rfl
    · split
      · exact Or.inl rfl
      · split
        · exact Or.inr (Or.inl rfl)
        · exact Or.inr (Or.inr rfl)
theorem sh_ok {S : SS} (hI : Iv S) {j n : Nat} (hj : j < S.nA) (hn : n < S.nQ) : Eb 1412 (shH S j n) ∧ Eb 1412 (shV S j n) :=
  ⟨(shk_add (fl_ok hI hj hn _ hI.2.1.2).1 _ _ _).2, (shk_add (fl_ok hI hj hn _ hI.2.1.2).2 _ _ _).2⟩
section KP
variable {l : Launch} {s0 : State} {D : va_G} {g : Nat → ClassId}
set_option maxRecDepth 100000 in
set_option maxHeartbeats 4000000 in
theorem k_X4_shoot (hl9 : l.stackTraces = false) (B : Base s0) {μ : mu} {L : Nat → Nat → Nat} {S : SS} (h0 : RX g L S μ) (hI : Iv S) {x y : Int32} : Cy l yX4_shoot wsX4_shoot (rmOf 8 4 24 190) s0 D (tyL g) [.ref (L 0 0), .int x, .int y] μ 4 24 (fun v μ' => shC S x y = 0 ∧ v = some (.int (shR S (ix x) (ix (S.A (ix x) 5)))) ∧ RX g L (shS S (ix x) (ix (S.A (ix x) 5)) (ix y)) μ' ∧ FrC L μ μ') (fun E μ' => px9 [IOB, ISE] (shC S x y) E ∧ RX g L S μ' ∧ FrC L μ μ') := by
  refine Cy.of (cc := cX4_shoot) (own := RX4) (maxL := 6) (ret := (some .int)) (by decide) rfl rfl (Nat.le_of_ble_eq_true rfl) ?_
  intro p e s m args below meth c Q C hE hnt hQ hQe
  obtain ⟨fh, fv, hR⟩ := h0
  have in_RX4 : ∀ w ∈ u_ws RX4 TX4 16, w ∈ wsX4_shoot := by decide +kernel
  have in_RX3 : ∀ w ∈ u_ws RX3 TX3 5, w ∈ wsX4_shoot := by decide +kernel
  have in_RX2 : ∀ w ∈ u_ws RX2 TX2 10, w ∈ wsX4_shoot := by decide +kernel
  have in_RX0 : ∀ w ∈ u_ws RX0 TX0 12, w ∈ wsX4_shoot := by decide +kernel
  have f121 : FL wsX4_shoot RX4 121 6 "ArrowField" RX4 TX4 16 7 := ⟨in_RX4, rfl, by decide, by decide +kernel, Or.inl rfl⟩
  have f130 : FL wsX4_shoot RX4 130 5 "ArrowField$Quiver" RX3 TX3 5 2 := ⟨in_RX3, rfl, by decide, by decide +kernel, Or.inl rfl⟩
  have f31 : FL wsX4_shoot RX4 31 6 "ArrowField" RX4 TX4 16 12 := ⟨in_RX4, rfl, by decide, by decide +kernel, Or.inl rfl⟩
  have f86 : FL wsX4_shoot RX4 86 4 "ArrowField$Match" RX2 TX2 10 0 := ⟨in_RX2, rfl, by decide, by decide +kernel, Or.inl rfl⟩
  have f41 : FL wsX4_shoot RX4 41 6 "ArrowField" RX4 TX4 16 15 := ⟨in_RX4, rfl, by decide, by decide +kernel, Or.inl rfl⟩
  have f99 : FL wsX4_shoot RX4 99 2 "ArrowField$Archer" RX0 TX0 12 2 := ⟨in_RX0, rfl, by decide, by decide +kernel, Or.inl rfl⟩
  have f21 : FL wsX4_shoot RX4 21 6 "ArrowField" RX4 TX4 16 4 := ⟨in_RX4, rfl, by decide, by decide +kernel, Or.inl rfl⟩
  have f115 : FL wsX4_shoot RX4 115 6 "ArrowField" RX4 TX4 16 5 := ⟨in_RX4, rfl, by decide, by decide +kernel, Or.inl rfl⟩
  have f145 : FL wsX4_shoot RX4 145 6 "ArrowField" RX4 TX4 16 8 := ⟨in_RX4, rfl, by decide, by decide +kernel, Or.inl rfl⟩
  have f64 : FL wsX4_shoot RX4 64 2 "ArrowField$Archer" RX0 TX0 12 1 := ⟨in_RX0, rfl, by decide, by decide +kernel, Or.inl rfl⟩
  have f25 : FL wsX4_shoot RX4 25 6 "ArrowField" RX4 TX4 16 6 := ⟨in_RX4, rfl, by decide, by decide +kernel, Or.inl rfl⟩
  have f164 : FL wsX4_shoot RX4 164 6 "ArrowField" RX4 TX4 16 9 := ⟨in_RX4, rfl, by decide, by decide +kernel, Or.inl rfl⟩
  refine aw_aload_n C dX4_shoot_0 rfl ?_
  refine aw_iload_n C dX4_shoot_1 rfl ?_
  refine ax_callV (n := 1) C hE hQ hnt (ci := 6) (q := (RX4, TX4, 16)) (k_X4_archerNumbered (x := x) hl9 B ⟨_, _, hR⟩ hI) gX4_shoot_X4_archerNumbered rfl ⟨rfl, rfl⟩ (by decide +kernel) ⟨by decide, by decide⟩ rfl rfl hR.mn rfl (Nat.le_of_ble_eq_true rfl) dX4_shoot_2 ⟨by decide, by decide⟩ ⟨by decide, by decide⟩ (fun E9 μ9 hp => by obtain ⟨rfl, hn, rfl⟩ := hp; exact ⟨⟨by simp [shC, hn], by simp [shC, hn]⟩, ⟨_, _, hR⟩, FrC.rf⟩) (fun v μ' hp => ?_)
  obtain ⟨hb1, ⟨j, hj, rfl, rfl⟩, hm9⟩ := hp
  replace hm9 := hm9.symm
  subst hm9
  refine aw_st (st' := [.ref (L 5 j)]) rfl ?_
  have hj6 : j < 6 := Nat.lt_of_lt_of_le hj hI.A6
  refine aw_astore_n C dX4_shoot_5 (by decide) ?_
  refine aw_iload_n C dX4_shoot_6 rfl ?_
  refine ax_callS (n := 1) C hE hQ hnt (k_X4_needArrow (x := y) hl9 B) gX4_shoot_X4_needArrow rfl ⟨rfl, rfl⟩ (by decide +kernel) ⟨by decide, by decide⟩ rfl rfl (Nat.le_of_ble_eq_true rfl) dX4_shoot_7 ⟨by decide, by decide⟩ ⟨by decide, by decide⟩ (fun E9 μ9 hp => by obtain ⟨rfl, hn, rfl⟩ := hp; exact ⟨⟨by simp [shC, hb1, hn], by simp [shC, hb1, hn]⟩, ⟨_, _, hR⟩, FrC.rf⟩) (fun v μ' hp => ?_)
  obtain ⟨hb2, rfl, hm9⟩ := hp
  replace hm9 := hm9.symm
  subst hm9
  obtain ⟨k, hk, rfl⟩ := inb_of hb2 (by decide)
  refine aw_st (st' := []) rfl ?_
  have ej6 : ix (nI j) = j := ix_nI hj6 (by decide)
  have ek6 : ix (nI k) = k := ix_nI hk (by decide)
  refine aw_aload_n C dX4_shoot_10 rfl ?_
  refine aw_get C f121 hR.mn rfl dX4_shoot_11 ?_
  refine aw_if_eq C (tgt := 27) dX4_shoot_14 (by decide) (fun c_14 => ?_) (fun c_14 => ?_)
  · refine aw_aload_n C dX4_shoot_27 rfl ?_
    refine aw_aload_n C dX4_shoot_28 rfl ?_
    refine ax_callV (n := 1) C hE hQ hnt (ci := 6) (q := (RX4, TX4, 16)) (k_X4_quiverOf hl9 B ⟨_, _, hR⟩ hI hj) gX4_shoot_X4_quiverOf rfl ⟨rfl, rfl⟩ (by decide +kernel) ⟨by decide, by decide⟩ rfl rfl hR.mn rfl (Nat.le_of_ble_eq_true rfl) dX4_shoot_29 ⟨by decide, by decide⟩ ⟨by decide, by decide⟩ (fun E9 μ9 hp => by obtain ⟨rfl, hn, rfl⟩ := hp; have hc : shC S (nI j) (nI k) = 2 := shC_2 hb1 hb2 (fun q => q.2.1 (by rw [ej6]; exact hn)); exact ⟨⟨by rw [hc]; decide, by rw [hc]; rfl⟩, ⟨_, _, hR⟩, FrC.rf⟩) (fun v μ' hp => ?_)
    obtain ⟨⟨u, hu, huq, rfl⟩, hm9⟩ := hp
    replace hm9 := hm9.symm
    subst hm9
    have hu6 : u < 6 := Nat.lt_of_lt_of_le hu hI.Q6
    have eu6 : ix (nI u) = u := ix_nI hu6 (by decide)
    have nuq : ¬ S.A j 5 = -1 := by rw [huq]; exact nI_m1 (by omega)
    refine aw_st (st' := [.ref (L 6 u)]) rfl ?_
    refine aw_astore C dX4_shoot_32 (by decide) ?_
    refine aw_aload C dX4_shoot_34 rfl ?_
    refine aw_get C f130 (hR.qu hu6) rfl dX4_shoot_36 ?_
    refine aw_iload_n C dX4_shoot_39 rfl ?_
    refine aw_ialdE C (hR.st hu6) rfl ⟨hk, by decide⟩ rfl dX4_shoot_40 ?_
    refine aw_if_eq C (tgt := 54) dX4_shoot_41 (by decide) (fun c_41 => ?_) (fun c_41 => ?_)
    · refine aw_aload_n C dX4_shoot_54 rfl ?_
      refine aw_get C f31 hR.mn rfl dX4_shoot_55 ?_
      refine aw_get C f86 hR.mt rfl dX4_shoot_58 ?_
      refine aw_if_eq C (tgt := 85) dX4_shoot_61 (by decide) (fun c_61 => ?_) (fun c_61 => ?_)
      · refine aw_aload_n C dX4_shoot_85 rfl ?_
        refine aw_get C f41 hR.mn rfl dX4_shoot_86 ?_
        refine aw_aload_n C dX4_shoot_89 rfl ?_
        refine aw_aload C dX4_shoot_90 rfl ?_
        refine aw_aload_n C dX4_shoot_92 rfl ?_
        refine aw_get C f99 (hR.ar hj6) rfl dX4_shoot_93 ?_
        refine aw_aload_n C dX4_shoot_96 rfl ?_
        refine aw_get C f21 hR.mn rfl dX4_shoot_97 ?_
        refine aw_aload_n C dX4_shoot_100 rfl ?_
        refine aw_get C f115 hR.mn rfl dX4_shoot_101 ?_
        refine aw_callV (n := 5) C hE (ci := 3) (q := (RX1, TX1, 2)) (k_flyS (S := S) (j := j) (n := u) (x := (S.A j 2)) (di := (S.c 4)) B hR hI hj hu hI.2.1.2) gX4_shoot_X1_fly rfl ⟨rfl, rfl⟩ (by decide +kernel) ⟨by decide, by decide⟩ rfl rfl hR.fl rfl (Nat.le_of_ble_eq_true rfl) dX4_shoot_104 ⟨by decide, by decide⟩ (fun v μ' hp => ?_)
        obtain ⟨rfl, hm9⟩ := hp
        replace hm9 := hm9.symm
        subst hm9
        refine aw_st (st' := []) rfl ?_
        refine aw_aload_n C dX4_shoot_107 rfl ?_
        refine aw_bipush C (v := 13) (by decide) dX4_shoot_108 ?_
        refine aw_aload_n C dX4_shoot_110 rfl ?_
        refine aw_get C f145 (mp_k hR.mn (hR.li.ne (v0 (by decide)) (v0 (by decide)) (Or.inl (by decide)))) rfl dX4_shoot_111 ?_
        refine aw_imul C dX4_shoot_114 ?_
        refine aw_bipush C (v := 7) (by decide) dX4_shoot_115 ?_
        refine aw_iadd C dX4_shoot_117 ?_
        refine aw_bipush C (v := 64) (by decide) dX4_shoot_118 ?_
        refine aw_irem C (by decide) dX4_shoot_120 ?_
        refine aw_putE C f145 ftX4 (ty := .int) (by decide +kernel) rfl rfl (mp_k hR.mn (hR.li.ne (v0 (by decide)) (v0 (by decide)) (Or.inl (by decide)))) (Nat.le_of_ble_eq_true rfl) (fs' := [.ref (L 1 0), .ref (L 2 0), .int (S.c 2), .int (S.c 3), .int (S.c 4), .int (S.c 5), .int (S.c 6), .int (S.c 7), .int (((13 * (S.c 8)) + 7) - ((13 * (S.c 8)) + 7) / 64 * 64), .int (S.c 9), .int (S.c 10), .int (S.c 11), .ref (L 3 0), .int (S.c 13), .int (S.c 14), .ref (L 4 0)]) rfl dX4_shoot_121 ?_
        refine aw_aload_n C dX4_shoot_124 rfl ?_
        refine aw_get C f41 mp_s rfl dX4_shoot_125 ?_
        refine aw_aload_n C dX4_shoot_128 rfl ?_
        refine aw_get C f145 mp_s rfl dX4_shoot_129 ?_
        refine aw_aload_n C dX4_shoot_132 rfl ?_
        refine aw_get C f64 (mp_k (mp_k (hR.ar hj6) (hR.li.ne (v5 (by decide) hj6) (v0 (by decide)) (Or.inl (by decide)))) (hR.li.ne (v5 (by decide) hj6) (v0 (by decide)) (Or.inl (by decide)))) rfl dX4_shoot_133 ?_
        refine aw_aload_n C dX4_shoot_136 rfl ?_
        refine aw_get C f21 mp_s rfl dX4_shoot_137 ?_
        refine aw_callV (n := 3) C hE (ci := 3) (q := (RX1, TX1, 2)) (k_X1_shake (h := flH S j u (S.A j 2) (S.c 4)) (v := flV S j u (S.A j 2) (S.c 4)) (x := drN S) (y := S.A j 1) (z := S.c 4) B (mp_k mp_s (hR.li.ne (v0 (by decide)) (v0 (by decide)) (Or.inl (by decide)))) (fl_ok hI hj hu _ hI.2.1.2).1 (fl_ok hI hj hu _ hI.2.1.2).2) gX4_shoot_X1_shake rfl ⟨rfl, rfl⟩ (by decide +kernel) ⟨by decide, by decide⟩ rfl rfl (mp_k mp_s (hR.li.ne (v0 (by decide)) (v0 (by decide)) (Or.inl (by decide)))) rfl (Nat.le_of_ble_eq_true rfl) dX4_shoot_140 ⟨by decide, by decide⟩ (fun v μ' hp => ?_)
        obtain ⟨rfl, hm9⟩ := hp
        replace hm9 := hm9.symm
        subst hm9
        refine aw_st (st' := []) rfl ?_
        refine aw_aload_n C dX4_shoot_143 rfl ?_
        refine aw_callV (n := 0) C hE (ci := 6) (q := (RX4, TX4, 16)) (k_X4_splitWhatIsHit (S := S.wc (upd S.c 8 (drN S))) (fh := shH S j u) (fv := shV S j u) B (((hR.setFl (flH S j u (S.A j 2) (S.c 4)) (flV S j u (S.A j 2) (S.c 4))).setMn (upd S.c 8 (drN S))).setFl (shH S j u) (shV S j u)) hI.1.2.2.1 hI.Q6 (fun a b => ⟨(hI.2.2.2.2.2.2.2.1 a b).1, (hI.2.2.2.2.2.2.2.1 a b).2.1⟩) (sh_ok hI hj hu).1 (sh_ok hI hj hu).2) gX4_shoot_X4_splitWhatIsHit rfl ⟨rfl, rfl⟩ (by decide +kernel) ⟨by decide, by decide⟩ rfl rfl (mp_k mp_s (hR.li.ne (v0 (by decide)) (v0 (by decide)) (Or.inl (by decide)))) rfl (Nat.le_of_ble_eq_true rfl) dX4_shoot_144 ⟨by decide, by decide⟩ (fun v μ' hp => ?_)
        obtain ⟨rfl, hR2, hF2⟩ := hp
        have zt := spS_t (S.wc (upd S.c 8 (drN S))) (shH S j u) (shV S j u)
        have zla := spS_la (S.wc (upd S.c 8 (drN S))) (shH S j u) (shV S j u)
        have zA := spS_A (S.wc (upd S.c 8 (drN S))) (shH S j u) (shV S j u)
        have zcr := spS_cr (S.wc (upd S.c 8 (drN S))) (shH S j u) (shV S j u)
        have znA := spS_nA (S.wc (upd S.c 8 (drN S))) (shH S j u) (shV S j u)
        have z6 : (spS (S.wc (upd S.c 8 (drN S))) (shH S j u) (shV S j u)).c 6 = S.c 6 := spS_c _ _ _ (by decide)
        generalize hS2 : spS (S.wc (upd S.c 8 (drN S))) (shH S j u) (shV S j u) = S2 at *
        refine aw_st (st' := []) rfl ?_
        refine aw_aload_n C dX4_shoot_147 rfl ?_
        refine aw_get C f41 hR2.mn rfl dX4_shoot_148 ?_
        refine aw_aload_n C dX4_shoot_151 rfl ?_
        refine aw_get C f25 hR2.mn rfl dX4_shoot_152 ?_
        refine aw_callV (n := 1) C hE (ci := 3) (q := (RX1, TX1, 2)) (k_X1_worth B hR2.fl ((sh_ok hI hj hu).1.up (by decide)) ((sh_ok hI hj hu).2.up (by decide))) gX4_shoot_X1_worth rfl ⟨rfl, rfl⟩ (by decide +kernel) ⟨by decide, by decide⟩ rfl rfl hR2.fl rfl (Nat.le_of_ble_eq_true rfl) dX4_shoot_155 ⟨by decide, by decide⟩ (fun v μ' hp => ?_)
        obtain ⟨rfl, hm9⟩ := hp
        replace hm9 := hm9.symm
        subst hm9
        refine aw_st (show _ = [Value.int (shR S j u)] by rw [z6]; rfl) ?_
        refine aw_st (st' := [.int (shR S j u)]) rfl ?_
        refine aw_istore C dX4_shoot_158 (by decide) ?_
        refine aw_aload C dX4_shoot_160 rfl ?_
        refine aw_iload_n C dX4_shoot_162 rfl ?_
        refine aw_aload_n C dX4_shoot_163 rfl ?_
        refine aw_get C f41 hR2.mn rfl dX4_shoot_164 ?_
        refine aw_iload C dX4_shoot_167 rfl ?_
        refine aw_callV (n := 3) C hE (ci := 5) (q := (RX3, TX3, 5)) (k_X3_land (j := k) (f := S2.F u) (h := shH S j u) (v := shV S j u) (H := S2.H u) (V := S2.V u) B (hR2.qu hu6) (hR2.st hu6) (hR2.hh hu6) (hR2.vv hu6) hR2.fl rfl hk (hR2.li.ne (v5 (by decide) hu6) (v5 (by decide) hu6) (Or.inl (by decide)))) gX4_shoot_X3_land rfl ⟨rfl, rfl⟩ (by decide +kernel) ⟨by decide, by decide⟩ rfl rfl (hR2.qu hu6) rfl (Nat.le_of_ble_eq_true rfl) dX4_shoot_169 ⟨by decide, by decide⟩ (fun v μ' hp => ?_)
        obtain ⟨rfl, hm9⟩ := hp
        replace hm9 := hm9.symm
        subst hm9
        refine aw_st (st' := []) rfl ?_
        refine aw_aload_n C dX4_shoot_172 rfl ?_
        refine aw_iload C dX4_shoot_173 rfl ?_
        refine aw_callV (n := 1) C hE (ci := 2) (q := (RX0, TX0, 12)) (k_X0_count (A := S2.A j) (cr := S2.cr j) (x := shR S j u) B (mp_k (mp_k (mp_k (hR2.ar hj6) (hR2.li.ne (v5 (by decide) hj6) (v5 (by decide) hu6) (Or.inl (by decide)))) (hR2.li.ne (v5 (by decide) hj6) (v5 (by decide) hu6) (Or.inl (by decide)))) (hR2.li.ne (v5 (by decide) hj6) (v5 (by decide) hu6) (Or.inl (by decide)))) (by rw [zcr]; exact (hI.2.2.2.1 j hj).2.1)) gX4_shoot_X0_count rfl ⟨rfl, rfl⟩ (by decide +kernel) ⟨by decide, by decide⟩ rfl rfl (mp_k (mp_k (mp_k (hR2.ar hj6) (hR2.li.ne (v5 (by decide) hj6) (v5 (by decide) hu6) (Or.inl (by decide)))) (hR2.li.ne (v5 (by decide) hj6) (v5 (by decide) hu6) (Or.inl (by decide)))) (hR2.li.ne (v5 (by decide) hj6) (v5 (by decide) hu6) (Or.inl (by decide)))) rfl (Nat.le_of_ble_eq_true rfl) dX4_shoot_175 ⟨by decide, by decide⟩ (fun v μ' hp => ?_)
        obtain ⟨rfl, hm9⟩ := hp
        replace hm9 := hm9.symm
        subst hm9
        refine aw_st (st' := []) rfl ?_
        refine aw_aload_n C dX4_shoot_178 rfl ?_
        refine aw_dup C rfl dX4_shoot_179 ?_
        refine aw_get C f164 (mp_k (mp_k (mp_k (mp_k hR2.mn (hR2.li.ne (v0 (by decide)) (v5 (by decide) hu6) (Or.inl (by decide)))) (hR2.li.ne (v0 (by decide)) (v5 (by decide) hu6) (Or.inl (by decide)))) (hR2.li.ne (v0 (by decide)) (v5 (by decide) hu6) (Or.inl (by decide)))) (hR2.li.ne (v0 (by decide)) (v5 (by decide) hj6) (Or.inl (by decide)))) rfl dX4_shoot_180 ?_
        refine aw_iconst C (v := 1) (by decide) dX4_shoot_183 ?_
        refine aw_iadd C dX4_shoot_184 ?_
        refine aw_putE C f164 ftX4 (ty := .int) (by decide +kernel) rfl rfl (mp_k (mp_k (mp_k (mp_k hR2.mn (hR2.li.ne (v0 (by decide)) (v5 (by decide) hu6) (Or.inl (by decide)))) (hR2.li.ne (v0 (by decide)) (v5 (by decide) hu6) (Or.inl (by decide)))) (hR2.li.ne (v0 (by decide)) (v5 (by decide) hu6) (Or.inl (by decide)))) (hR2.li.ne (v0 (by decide)) (v5 (by decide) hj6) (Or.inl (by decide)))) (Nat.le_of_ble_eq_true rfl) (fs' := [.ref (L 1 0), .ref (L 2 0), .int (S2.c 2), .int (S2.c 3), .int (S2.c 4), .int (S2.c 5), .int (S2.c 6), .int (S2.c 7), .int (S2.c 8), .int ((S2.c 9) + 1), .int (S2.c 10), .int (S2.c 11), .ref (L 3 0), .int (S2.c 13), .int (S2.c 14), .ref (L 4 0)]) rfl dX4_shoot_185 ?_
        have hR40 : ∀ M : mu, RC g L (ctA (ldS S2 u k (shH S j u) (shV S j u) (shR S j u)) j (shR S j u)) (shH S j u) (shV S j u) M → RC g L (shS0 S j u k) (shH S j u) (shV S j u) M := fun M h => by unfold shS0; rw [hS2]; exact h
        have hR4 := hR40 _ (((((hR2.setHh hu6 (vf_upd (S2.H u) k (shH S j u))).setVv hu6 (vf_upd (S2.V u) k (shV S j u))).setSt hu6 (upd (S2.F u) k (if shR S j u = 0 then 2 else 1))).setAr hj6 (cntA (S2.A j) (shR S j u)) (crNx (S2.cr j))).setMn (upd S2.c 9 (S2.c 9 + 1)))
        have t4 : (shS0 S j u k).t = S.t := by unfold shS0; rw [hS2]; exact zt
        have a4 : (shS0 S j u k).la = S.la := by unfold shS0; rw [hS2]; exact zla
        have n4 : (shS0 S j u k).nA = S.nA := by unfold shS0; rw [hS2]; exact znA
        refine aw_aload_n C dX4_shoot_188 rfl ?_
        refine aw_get C f31 mp_s rfl dX4_shoot_189 ?_
        refine aw_get C f86 (mp_k (mp_k (mp_k (mp_k (mp_k hR2.mt (hR2.li.ne (v0 (by decide)) (v5 (by decide) hu6) (Or.inl (by decide)))) (hR2.li.ne (v0 (by decide)) (v5 (by decide) hu6) (Or.inl (by decide)))) (hR2.li.ne (v0 (by decide)) (v5 (by decide) hu6) (Or.inl (by decide)))) (hR2.li.ne (v0 (by decide)) (v5 (by decide) hj6) (Or.inl (by decide)))) (hR2.li.ne (v0 (by decide)) (v0 (by decide)) (Or.inl (by decide)))) rfl dX4_shoot_192 ?_
        refine aw_if_eq C (tgt := 204) dX4_shoot_195 (by decide) (fun c_195 => ?_) (fun c_195 => ?_)
        · refine aw_iload C dX4_shoot_204 rfl ?_
          refine aw_iret C hQe ?_ (by omega) (by omega) dX4_shoot_206
          have e9 : ix (S.A j 5) = u := by rw [huq]; exact eu6
          rw [ej6, ek6, e9]
          have e8 : shS S j u k = shS0 S j u k := if_pos (by rw [← zt]; exact c_195)
          rw [e8]
          exact ⟨shC_0 hb1 hb2 ⟨c_14, by rw [ej6]; exact nuq, by rw [ej6, huq, eu6, ek6]; exact c_41, (Or.inl c_61)⟩, rfl, ⟨_, _, hR4⟩, (((((((((FrC.rf.mp (v0 (by decide))).mp (v0 (by decide))).mp (v0 (by decide))).tr hF2).mp (v5 (by decide) hu6)).mp (v5 (by decide) hu6)).mp (v5 (by decide) hu6)).mp (v5 (by decide) hj6)).mp (v0 (by decide)))⟩
        · obtain ⟨-, k8, -, -, h84, h8, -⟩ := hI.on (by rw [← zt]; exact c_195)
          refine aw_aload_n C dX4_shoot_198 rfl ?_
          refine aw_iload C dX4_shoot_199 rfl ?_
          refine aw_callV (n := 1) C hE (ci := 6) (q := (RX4, TX4, 16)) (k_X4_countForMatch (S := shS0 S j u k) (fh := shH S j u) (fv := shV S j u) (sc := shR S j u) B hR4 (by rw [n4]; exact hI.A6) (by rw [t4]; exact h8) h84 (by rw [a4]; exact hI.2.2.2.2.2.2.2.2.1.nn (by decide)) (sh_ok hI hj hu).1 (sh_ok hI hj hu).2 (fun d => by rw [show cmR (shS0 S j u k) (shR S j u) d = cmR S (shR S j u) d by unfold cmR; rw [t4, a4], n4]; exact cmR_ok hI (by rw [← zt]; exact c_195) _ d)) gX4_shoot_X4_countForMatch rfl ⟨rfl, rfl⟩ (by decide +kernel) ⟨by decide, by decide⟩ rfl rfl mp_s rfl (Nat.le_of_ble_eq_true rfl) dX4_shoot_201 ⟨by decide, by decide⟩ (fun v μ' hp => ?_)
          obtain ⟨rfl, hR9, hF9⟩ := hp
          refine aw_st (st' := []) rfl ?_
          refine aw_iload C dX4_shoot_204 rfl ?_
          refine aw_iret C hQe ?_ (by omega) (by omega) dX4_shoot_206
          have e9 : ix (S.A j 5) = u := by rw [huq]; exact eu6
          rw [ej6, ek6, e9]
          have e8 : shS S j u k = cmS (shS0 S j u k) (shR S j u) (farF (shH S j u) (shV S j u)) := if_neg (by rw [← zt]; exact c_195)
          rw [e8]
          exact ⟨shC_0 hb1 hb2 ⟨c_14, by rw [ej6]; exact nuq, by rw [ej6, huq, eu6, ek6]; exact c_41, (Or.inl c_61)⟩, rfl, ⟨_, _, hR9⟩, (((((((((FrC.rf.mp (v0 (by decide))).mp (v0 (by decide))).mp (v0 (by decide))).tr hF2).mp (v5 (by decide) hu6)).mp (v5 (by decide) hu6)).mp (v5 (by decide) hu6)).mp (v5 (by decide) hj6)).mp (v0 (by decide))).tr hF9⟩
      · obtain ⟨-, k7, -, -, h74, h7, -⟩ := hI.on c_61
        refine aw_aload_n C dX4_shoot_64 rfl ?_
        refine aw_get C f31 hR.mn rfl dX4_shoot_65 ?_
        refine aw_callV (n := 0) C hE (ci := 4) (q := (RX2, TX2, 10)) (k_X2_turn B hR.mt h7 h74) gX4_shoot_X2_turn rfl ⟨rfl, rfl⟩ (by decide +kernel) ⟨by decide, by decide⟩ rfl rfl hR.mt rfl (Nat.le_of_ble_eq_true rfl) dX4_shoot_68 ⟨by decide, by decide⟩ (fun v μ' hp => ?_)
        obtain ⟨rfl, hm9⟩ := hp
        replace hm9 := hm9.symm
        subst hm9
        refine aw_st (st' := [.int (if k7 % 2 = 0 then S.t 1 else S.t 2)]) rfl ?_
        refine aw_iload_n C dX4_shoot_71 rfl ?_
        refine aw_icmp_eq C (tgt := 85) dX4_shoot_72 (by decide) (fun c_72 => ?_) (fun c_72 => ?_)
        · refine aw_aload_n C dX4_shoot_85 rfl ?_
          refine aw_get C f41 hR.mn rfl dX4_shoot_86 ?_
          refine aw_aload_n C dX4_shoot_89 rfl ?_
          refine aw_aload C dX4_shoot_90 rfl ?_
          refine aw_aload_n C dX4_shoot_92 rfl ?_
          refine aw_get C f99 (hR.ar hj6) rfl dX4_shoot_93 ?_
          refine aw_aload_n C dX4_shoot_96 rfl ?_
          refine aw_get C f21 hR.mn rfl dX4_shoot_97 ?_
          refine aw_aload_n C dX4_shoot_100 rfl ?_
          refine aw_get C f115 hR.mn rfl dX4_shoot_101 ?_
          refine aw_callV (n := 5) C hE (ci := 3) (q := (RX1, TX1, 2)) (k_flyS (S := S) (j := j) (n := u) (x := (S.A j 2)) (di := (S.c 4)) B hR hI hj hu hI.2.1.2) gX4_shoot_X1_fly rfl ⟨rfl, rfl⟩ (by decide +kernel) ⟨by decide, by decide⟩ rfl rfl hR.fl rfl (Nat.le_of_ble_eq_true rfl) dX4_shoot_104 ⟨by decide, by decide⟩ (fun v μ' hp => ?_)
          obtain ⟨rfl, hm9⟩ := hp
          replace hm9 := hm9.symm
          subst hm9
          refine aw_st (st' := []) rfl ?_
          refine aw_aload_n C dX4_shoot_107 rfl ?_
          refine aw_bipush C (v := 13) (by decide) dX4_shoot_108 ?_
          refine aw_aload_n C dX4_shoot_110 rfl ?_
          refine aw_get C f145 (mp_k hR.mn (hR.li.ne (v0 (by decide)) (v0 (by decide)) (Or.inl (by decide)))) rfl dX4_shoot_111 ?_
          refine aw_imul C dX4_shoot_114 ?_
          refine aw_bipush C (v := 7) (by decide) dX4_shoot_115 ?_
          refine aw_iadd C dX4_shoot_117 ?_
          refine aw_bipush C (v := 64) (by decide) dX4_shoot_118 ?_
          refine aw_irem C (by decide) dX4_shoot_120 ?_
          refine aw_putE C f145 ftX4 (ty := .int) (by decide +kernel) rfl rfl (mp_k hR.mn (hR.li.ne (v0 (by decide)) (v0 (by decide)) (Or.inl (by decide)))) (Nat.le_of_ble_eq_true rfl) (fs' := [.ref (L 1 0), .ref (L 2 0), .int (S.c 2), .int (S.c 3), .int (S.c 4), .int (S.c 5), .int (S.c 6), .int (S.c 7), .int (((13 * (S.c 8)) + 7) - ((13 * (S.c 8)) + 7) / 64 * 64), .int (S.c 9), .int (S.c 10), .int (S.c 11), .ref (L 3 0), .int (S.c 13), .int (S.c 14), .ref (L 4 0)]) rfl dX4_shoot_121 ?_
          refine aw_aload_n C dX4_shoot_124 rfl ?_
          refine aw_get C f41 mp_s rfl dX4_shoot_125 ?_
          refine aw_aload_n C dX4_shoot_128 rfl ?_
          refine aw_get C f145 mp_s rfl dX4_shoot_129 ?_
          refine aw_aload_n C dX4_shoot_132 rfl ?_
          refine aw_get C f64 (mp_k (mp_k (hR.ar hj6) (hR.li.ne (v5 (by decide) hj6) (v0 (by decide)) (Or.inl (by decide)))) (hR.li.ne (v5 (by decide) hj6) (v0 (by decide)) (Or.inl (by decide)))) rfl dX4_shoot_133 ?_
          refine aw_aload_n C dX4_shoot_136 rfl ?_
          refine aw_get C f21 mp_s rfl dX4_shoot_137 ?_
          refine aw_callV (n := 3) C hE (ci := 3) (q := (RX1, TX1, 2)) (k_X1_shake (h := flH S j u (S.A j 2) (S.c 4)) (v := flV S j u (S.A j 2) (S.c 4)) (x := drN S) (y := S.A j 1) (z := S.c 4) B (mp_k mp_s (hR.li.ne (v0 (by decide)) (v0 (by decide)) (Or.inl (by decide)))) (fl_ok hI hj hu _ hI.2.1.2).1 (fl_ok hI hj hu _ hI.2.1.2).2) gX4_shoot_X1_shake rfl ⟨rfl, rfl⟩ (by decide +kernel) ⟨by decide, by decide⟩ rfl rfl (mp_k mp_s (hR.li.ne (v0 (by decide)) (v0 (by decide)) (Or.inl (by decide)))) rfl (Nat.le_of_ble_eq_true rfl) dX4_shoot_140 ⟨by decide, by decide⟩ (fun v μ' hp => ?_)
          obtain ⟨rfl, hm9⟩ := hp
          replace hm9 := hm9.symm
          subst hm9
          refine aw_st (st' := []) rfl ?_
          refine aw_aload_n C dX4_shoot_143 rfl ?_
          refine aw_callV (n := 0) C hE (ci := 6) (q := (RX4, TX4, 16)) (k_X4_splitWhatIsHit (S := S.wc (upd S.c 8 (drN S))) (fh := shH S j u) (fv := shV S j u) B (((hR.setFl (flH S j u (S.A j 2) (S.c 4)) (flV S j u (S.A j 2) (S.c 4))).setMn (upd S.c 8 (drN S))).setFl (shH S j u) (shV S j u)) hI.1.2.2.1 hI.Q6 (fun a b => ⟨(hI.2.2.2.2.2.2.2.1 a b).1, (hI.2.2.2.2.2.2.2.1 a b).2.1⟩) (sh_ok hI hj hu).1 (sh_ok hI hj hu).2) gX4_shoot_X4_splitWhatIsHit rfl ⟨rfl, rfl⟩ (by decide +kernel) ⟨by decide, by decide⟩ rfl rfl (mp_k mp_s (hR.li.ne (v0 (by decide)) (v0 (by decide)) (Or.inl (by decide)))) rfl (Nat.le_of_ble_eq_true rfl) dX4_shoot_144 ⟨by decide, by decide⟩ (fun v μ' hp => ?_)
          obtain ⟨rfl, hR2, hF2⟩ := hp
          have zt := spS_t (S.wc (upd S.c 8 (drN S))) (shH S j u) (shV S j u)
          have zla := spS_la (S.wc (upd S.c 8 (drN S))) (shH S j u) (shV S j u)
          have zA := spS_A (S.wc (upd S.c 8 (drN S))) (shH S j u) (shV S j u)
          have zcr := spS_cr (S.wc (upd S.c 8 (drN S))) (shH S j u) (shV S j u)
          have znA := spS_nA (S.wc (upd S.c 8 (drN S))) (shH S j u) (shV S j u)
          have z6 : (spS (S.wc (upd S.c 8 (drN S))) (shH S j u) (shV S j u)).c 6 = S.c 6 := spS_c _ _ _ (by decide)
          generalize hS2 : spS (S.wc (upd S.c 8 (drN S))) (shH S j u) (shV S j u) = S2 at *
          refine aw_st (st' := []) rfl ?_
          refine aw_aload_n C dX4_shoot_147 rfl ?_
          refine aw_get C f41 hR2.mn rfl dX4_shoot_148 ?_
          refine aw_aload_n C dX4_shoot_151 rfl ?_
          refine aw_get C f25 hR2.mn rfl dX4_shoot_152 ?_
          refine aw_callV (n := 1) C hE (ci := 3) (q := (RX1, TX1, 2)) (k_X1_worth B hR2.fl ((sh_ok hI hj hu).1.up (by decide)) ((sh_ok hI hj hu).2.up (by decide))) gX4_shoot_X1_worth rfl ⟨rfl, rfl⟩ (by decide +kernel) ⟨by decide, by decide⟩ rfl rfl hR2.fl rfl (Nat.le_of_ble_eq_true rfl) dX4_shoot_155 ⟨by decide, by decide⟩ (fun v μ' hp => ?_)
          obtain ⟨rfl, hm9⟩ := hp
          replace hm9 := hm9.symm
          subst hm9
          refine aw_st (show _ = [Value.int (shR S j u)] by rw [z6]; rfl) ?_
          refine aw_st (st' := [.int (shR S j u)]) rfl ?_
          refine aw_istore C dX4_shoot_158 (by decide) ?_
          refine aw_aload C dX4_shoot_160 rfl ?_
          refine aw_iload_n C dX4_shoot_162 rfl ?_
          refine aw_aload_n C dX4_shoot_163 rfl ?_
          refine aw_get C f41 hR2.mn rfl dX4_shoot_164 ?_
          refine aw_iload C dX4_shoot_167 rfl ?_
          refine aw_callV (n := 3) C hE (ci := 5) (q := (RX3, TX3, 5)) (k_X3_land (j := k) (f := S2.F u) (h := shH S j u) (v := shV S j u) (H := S2.H u) (V := S2.V u) B (hR2.qu hu6) (hR2.st hu6) (hR2.hh hu6) (hR2.vv hu6) hR2.fl rfl hk (hR2.li.ne (v5 (by decide) hu6) (v5 (by decide) hu6) (Or.inl (by decide)))) gX4_shoot_X3_land rfl ⟨rfl, rfl⟩ (by decide +kernel) ⟨by decide, by decide⟩ rfl rfl (hR2.qu hu6) rfl (Nat.le_of_ble_eq_true rfl) dX4_shoot_169 ⟨by decide, by decide⟩ (fun v μ' hp => ?_)
          obtain ⟨rfl, hm9⟩ := hp
          replace hm9 := hm9.symm
          subst hm9
          refine aw_st (st' := []) rfl ?_
          refine aw_aload_n C dX4_shoot_172 rfl ?_
          refine aw_iload C dX4_shoot_173 rfl ?_
          refine aw_callV (n := 1) C hE (ci := 2) (q := (RX0, TX0, 12)) (k_X0_count (A := S2.A j) (cr := S2.cr j) (x := shR S j u) B (mp_k (mp_k (mp_k (hR2.ar hj6) (hR2.li.ne (v5 (by decide) hj6) (v5 (by decide) hu6) (Or.inl (by decide)))) (hR2.li.ne (v5 (by decide) hj6) (v5 (by decide) hu6) (Or.inl (by decide)))) (hR2.li.ne (v5 (by decide) hj6) (v5 (by decide) hu6) (Or.inl (by decide)))) (by rw [zcr]; exact (hI.2.2.2.1 j hj).2.1)) gX4_shoot_X0_count rfl ⟨rfl, rfl⟩ (by decide +kernel) ⟨by decide, by decide⟩ rfl rfl (mp_k (mp_k (mp_k (hR2.ar hj6) (hR2.li.ne (v5 (by decide) hj6) (v5 (by decide) hu6) (Or.inl (by decide)))) (hR2.li.ne (v5 (by decide) hj6) (v5 (by decide) hu6) (Or.inl (by decide)))) (hR2.li.ne (v5 (by decide) hj6) (v5 (by decide) hu6) (Or.inl (by decide)))) rfl (Nat.le_of_ble_eq_true rfl) dX4_shoot_175 ⟨by decide, by decide⟩ (fun v μ' hp => ?_)
          obtain ⟨rfl, hm9⟩ := hp
          replace hm9 := hm9.symm
          subst hm9
          refine aw_st (st' := []) rfl ?_
          refine aw_aload_n C dX4_shoot_178 rfl ?_
          refine aw_dup C rfl dX4_shoot_179 ?_
          refine aw_get C f164 (mp_k (mp_k (mp_k (mp_k hR2.mn (hR2.li.ne (v0 (by decide)) (v5 (by decide) hu6) (Or.inl (by decide)))) (hR2.li.ne (v0 (by decide)) (v5 (by decide) hu6) (Or.inl (by decide)))) (hR2.li.ne (v0 (by decide)) (v5 (by decide) hu6) (Or.inl (by decide)))) (hR2.li.ne (v0 (by decide)) (v5 (by decide) hj6) (Or.inl (by decide)))) rfl dX4_shoot_180 ?_
          refine aw_iconst C (v := 1) (by decide) dX4_shoot_183 ?_
          refine aw_iadd C dX4_shoot_184 ?_
          refine aw_putE C f164 ftX4 (ty := .int) (by decide +kernel) rfl rfl (mp_k (mp_k (mp_k (mp_k hR2.mn (hR2.li.ne (v0 (by decide)) (v5 (by decide) hu6) (Or.inl (by decide)))) (hR2.li.ne (v0 (by decide)) (v5 (by decide) hu6) (Or.inl (by decide)))) (hR2.li.ne (v0 (by decide)) (v5 (by decide) hu6) (Or.inl (by decide)))) (hR2.li.ne (v0 (by decide)) (v5 (by decide) hj6) (Or.inl (by decide)))) (Nat.le_of_ble_eq_true rfl) (fs' := [.ref (L 1 0), .ref (L 2 0), .int (S2.c 2), .int (S2.c 3), .int (S2.c 4), .int (S2.c 5), .int (S2.c 6), .int (S2.c 7), .int (S2.c 8), .int ((S2.c 9) + 1), .int (S2.c 10), .int (S2.c 11), .ref (L 3 0), .int (S2.c 13), .int (S2.c 14), .ref (L 4 0)]) rfl dX4_shoot_185 ?_
          have hR40 : ∀ M : mu, RC g L (ctA (ldS S2 u k (shH S j u) (shV S j u) (shR S j u)) j (shR S j u)) (shH S j u) (shV S j u) M → RC g L (shS0 S j u k) (shH S j u) (shV S j u) M := fun M h => by unfold shS0; rw [hS2]; exact h
          have hR4 := hR40 _ (((((hR2.setHh hu6 (vf_upd (S2.H u) k (shH S j u))).setVv hu6 (vf_upd (S2.V u) k (shV S j u))).setSt hu6 (upd (S2.F u) k (if shR S j u = 0 then 2 else 1))).setAr hj6 (cntA (S2.A j) (shR S j u)) (crNx (S2.cr j))).setMn (upd S2.c 9 (S2.c 9 + 1)))
          have t4 : (shS0 S j u k).t = S.t := by unfold shS0; rw [hS2]; exact zt
          have a4 : (shS0 S j u k).la = S.la := by unfold shS0; rw [hS2]; exact zla
          have n4 : (shS0 S j u k).nA = S.nA := by unfold shS0; rw [hS2]; exact znA
          refine aw_aload_n C dX4_shoot_188 rfl ?_
          refine aw_get C f31 mp_s rfl dX4_shoot_189 ?_
          refine aw_get C f86 (mp_k (mp_k (mp_k (mp_k (mp_k hR2.mt (hR2.li.ne (v0 (by decide)) (v5 (by decide) hu6) (Or.inl (by decide)))) (hR2.li.ne (v0 (by decide)) (v5 (by decide) hu6) (Or.inl (by decide)))) (hR2.li.ne (v0 (by decide)) (v5 (by decide) hu6) (Or.inl (by decide)))) (hR2.li.ne (v0 (by decide)) (v5 (by decide) hj6) (Or.inl (by decide)))) (hR2.li.ne (v0 (by decide)) (v0 (by decide)) (Or.inl (by decide)))) rfl dX4_shoot_192 ?_
          refine aw_if_eq C (tgt := 204) dX4_shoot_195 (by decide) (fun c_195 => ?_) (fun c_195 => ?_)
          · refine aw_iload C dX4_shoot_204 rfl ?_
            refine aw_iret C hQe ?_ (by omega) (by omega) dX4_shoot_206
            have e9 : ix (S.A j 5) = u := by rw [huq]; exact eu6
            rw [ej6, ek6, e9]
            have e8 : shS S j u k = shS0 S j u k := if_pos (by rw [← zt]; exact c_195)
            rw [e8]
            exact ⟨shC_0 hb1 hb2 ⟨c_14, by rw [ej6]; exact nuq, by rw [ej6, huq, eu6, ek6]; exact c_41, (Or.inr ((trF_k h7 h74).trans c_72))⟩, rfl, ⟨_, _, hR4⟩, (((((((((FrC.rf.mp (v0 (by decide))).mp (v0 (by decide))).mp (v0 (by decide))).tr hF2).mp (v5 (by decide) hu6)).mp (v5 (by decide) hu6)).mp (v5 (by decide) hu6)).mp (v5 (by decide) hj6)).mp (v0 (by decide)))⟩
          · obtain ⟨-, k8, -, -, h84, h8, -⟩ := hI.on (by rw [← zt]; exact c_195)
            refine aw_aload_n C dX4_shoot_198 rfl ?_
            refine aw_iload C dX4_shoot_199 rfl ?_
            refine aw_callV (n := 1) C hE (ci := 6) (q := (RX4, TX4, 16)) (k_X4_countForMatch (S := shS0 S j u k) (fh := shH S j u) (fv := shV S j u) (sc := shR S j u) B hR4 (by rw [n4]; exact hI.A6) (by rw [t4]; exact h8) h84 (by rw [a4]; exact hI.2.2.2.2.2.2.2.2.1.nn (by decide)) (sh_ok hI hj hu).1 (sh_ok hI hj hu).2 (fun d => by rw [show cmR (shS0 S j u k) (shR S j u) d = cmR S (shR S j u) d by unfold cmR; rw [t4, a4], n4]; exact cmR_ok hI (by rw [← zt]; exact c_195) _ d)) gX4_shoot_X4_countForMatch rfl ⟨rfl, rfl⟩ (by decide +kernel) ⟨by decide, by decide⟩ rfl rfl mp_s rfl (Nat.le_of_ble_eq_true rfl) dX4_shoot_201 ⟨by decide, by decide⟩ (fun v μ' hp => ?_)
            obtain ⟨rfl, hR9, hF9⟩ := hp
            refine aw_st (st' := []) rfl ?_
            refine aw_iload C dX4_shoot_204 rfl ?_
            refine aw_iret C hQe ?_ (by omega) (by omega) dX4_shoot_206
            have e9 : ix (S.A j 5) = u := by rw [huq]; exact eu6
            rw [ej6, ek6, e9]
            have e8 : shS S j u k = cmS (shS0 S j u k) (shR S j u) (farF (shH S j u) (shV S j u)) := if_neg (by rw [← zt]; exact c_195)
            rw [e8]
            exact ⟨shC_0 hb1 hb2 ⟨c_14, by rw [ej6]; exact nuq, by rw [ej6, huq, eu6, ek6]; exact c_41, (Or.inr ((trF_k h7 h74).trans c_72))⟩, rfl, ⟨_, _, hR9⟩, (((((((((FrC.rf.mp (v0 (by decide))).mp (v0 (by decide))).mp (v0 (by decide))).tr hF2).mp (v5 (by decide) hu6)).mp (v5 (by decide) hu6)).mp (v5 (by decide) hu6)).mp (v5 (by decide) hj6)).mp (v0 (by decide))).tr hF9⟩
        · refine aw_throw C hE hQ hnt hl9 B.tz (cls := ISE) (text := "a match is on, and it is another one's turn") (ik := 54) (is := 139) (ic := 58) (by decide) (by decide +kernel) (by decide +kernel) B.str139 (by decide +kernel) xb58 B.xIS xo58 dX4_shoot_75 dX4_shoot_78 dX4_shoot_79 dX4_shoot_81 dX4_shoot_84 (by decide) (by decide) (by decide) (by decide) (by decide) (by decide) ?_
          have hc : shC S (nI j) (nI k) = 2 := shC_2 hb1 hb2 (fun q => q.2.2.2.elim c_61 (fun z => c_72 ((trF_k h7 h74).symm.trans z)))
          exact ⟨⟨by rw [hc]; decide, by rw [hc]; rfl⟩, ⟨_, _, hR⟩, FrC.rf⟩
    · refine aw_throw C hE hQ hnt hl9 B.tz (cls := ISE) (text := "the arrow is not here") (ik := 54) (is := 134) (ic := 58) (by decide) (by decide +kernel) (by decide +kernel) B.str134 (by decide +kernel) xb58 B.xIS xo58 dX4_shoot_44 dX4_shoot_47 dX4_shoot_48 dX4_shoot_50 dX4_shoot_53 (by decide) (by decide) (by decide) (by decide) (by decide) (by decide) ?_
      have hc : shC S (nI j) (nI k) = 2 := shC_2 hb1 hb2 (fun q => c_41 (by have z := q.2.2.1; rwa [ej6, huq, eu6, ek6] at z))
      exact ⟨⟨by rw [hc]; decide, by rw [hc]; rfl⟩, ⟨_, _, hR⟩, FrC.rf⟩
  · refine aw_throw C hE hQ hnt hl9 B.tz (cls := ISE) (text := "the field is closed") (ik := 54) (is := 124) (ic := 58) (by decide) (by decide +kernel) (by decide +kernel) B.str124 (by decide +kernel) xb58 B.xIS xo58 dX4_shoot_17 dX4_shoot_20 dX4_shoot_21 dX4_shoot_23 dX4_shoot_26 (by decide) (by decide) (by decide) (by decide) (by decide) (by decide) ?_
    have hc : shC S (nI j) (nI k) = 2 := shC_2 hb1 hb2 (fun q => c_14 q.1)
    exact ⟨⟨by rw [hc]; decide, by rw [hc]; rfl⟩, ⟨_, _, hR⟩, FrC.rf⟩
end KP
