/-! ===== ArrowFieldModel: what changes the state ===== -/
abbrev PMx (g : Nat → ClassId) (K : Nat → Nat → Nat) (e0 : Nat) (S S' : SS) (cd b : Nat) (μ μ' : mu) : Prop := RMX g K e0 (if cd = 0 then S' else S) (nI cd) b μ' ∧ FrM K S.nA S.nQ μ μ'
section KM2
variable {l : Launch} {s0 : State} {D : va_G} {g : Nat → ClassId}
set_option maxRecDepth 100000 in
set_option maxHeartbeats 4000000 in
theorem k_X7_stuck (B : Base s0) {μ : mu} {K : Nat → Nat → Nat} {e0 : Nat} {S : SS} {X : XS} (hM : RM g K e0 S X μ) (hI : Iv S)  : Ct l yX7_stuck wsX7_stuck (rmOf 3 1 4 120) s0 D (tyL g) [.ref (K 0 0)] μ 1 4 (fun v9 μ' => v9 = some (.int (skF S)) ∧ RM g K e0 S X μ' ∧ FrM K S.nA S.nQ μ μ') := by
  refine Ct.of (cc := cX7_stuck) (own := RX7) (maxL := 4) (ret := (some .int)) (by decide) rfl rfl (Nat.le_of_ble_eq_true rfl) ?_
  intro p e s m args below meth c Q C hE hnm hQe
  have in_RX7 : ∀ w ∈ u_ws RX7 TX7 22, w ∈ wsX7_stuck := by decide +kernel
  have f16 : FL wsX7_stuck RX7 16 9 "ArrowFieldModel" RX7 TX7 22 2 := ⟨in_RX7, rfl, by decide, by decide +kernel, Or.inl rfl⟩
  have hQ6 := hI.Q6
  refine aw_iconst C (v := 0) (by decide) dX7_stuck_0 ?_
  refine aw_istore_n C dX7_stuck_1 (by decide) ?_
  refine aw_aload_n C dX7_stuck_2 rfl ?_
  refine aw_get C f16 hM.mo rfl dX7_stuck_3 ?_
  refine aw_callV (n := 0) C hE (ci := 1) (q := (RJx4a65c, TJx4a65c, 3)) (k_Jx4a65c_iterator_32c93 B hM.qL) gX7_stuck_Jx4a65c_iterator_32c93 rfl ⟨rfl, rfl⟩ (by decide +kernel) ⟨by decide, by decide⟩ rfl rfl hM.qL rfl (Nat.le_of_ble_eq_true rfl) dX7_stuck_6 ⟨by decide, by decide⟩ (fun v μ' hp => ?_)
  obtain ⟨o, rfl, fo, hm9⟩ := hp
  replace hm9 := hm9.symm
  subst hm9
  refine aw_st (st' := [.ref o]) rfl ?_
  refine aw_re (P := fun μ1 => RM g K e0 S X μ1 ∧ FrM K S.nA S.nQ μ μ1 ∧ μ1 o = some (.inr (0, [.int 0, .int (-1), .int (nI S.nQ), .ref (K 2 0)]))) ⟨hM.nw fo, FrM.rf.nw fo, mp_s⟩ (fun μ1 hq => ?_)
  obtain ⟨hM1, hF1, hit⟩ := hq
  refine aw_astore_n C dX7_stuck_9 (by decide) ?_
  refine aw_lv (lv' := [(0, .ref (K 0 0)), (1, .int 0), (2, .ref o)]) ⟨rfl, rfl, rfl, trivial⟩ ?_
  have loop10 : ∀ (n : Nat) (i : Nat) (la : Int32) (y : Int32) (μk : mu), S.nQ - i = n → i ≤ S.nQ → y = skN S.F i → RM g K e0 S X μk → FrM K S.nA S.nQ μ μk → μk o = some (eIt (nI i) la (nI S.nQ) (K 2 0)) → Aw p l e (rmOf 3 1 4 120) s m args below meth c Q s0.heap.size D 4 μk (0 + 1) (0 + 4) 10 [(0, .ref (K 0 0)), (1, .int y), (2, .ref o)] [] := by
    intro n
    induction n using Nat.strongRecOn with
    | _ n ih =>
      intro i la y μk hn hk hy hMl hFl hit
      refine aw_aload_n C dX7_stuck_10 rfl ?_
      refine aw_callF (n := 0) C hE (ci := 0) (q := (RJx35411, TJx35411, 4)) (k_Jx35411_hasNext_aae02 B hMl.qL hit) gX7_stuck_Jx35411_hasNext_aae02_f111Jx35411 (va_Fw.moved (by decide) hE.1.alike B.fhasNext) rfl ⟨rfl, rfl⟩ (by decide +kernel) ⟨by decide, by decide⟩ rfl rfl hit rfl (Nat.le_of_ble_eq_true rfl) dX7_stuck_11 ⟨by decide, by decide⟩ (fun v μ' hp => ?_)
      obtain ⟨rfl, hm9⟩ := hp
      replace hm9 := hm9.symm
      subst hm9
      refine aw_st (st' := [.int (if nI i = nI S.nQ then 0 else 1)]) rfl ?_
      by_cases hs : nI i = nI S.nQ
      · refine aw_eqi (y := 0) (if_pos hs) ?_
        refine aw_if_eq C (tgt := 43) dX7_stuck_16 (by decide) (fun _ => ?_) (fun c9 => absurd (by decide) c9)
        refine aw_iload_n C dX7_stuck_43 rfl ?_
        refine aw_iret C hQe ?_ (by omega) (by omega) dX7_stuck_44
        have e8 : i = S.nQ := (nI_eq (by have := hI.Q6; omega) (by have := hI.Q6; omega)).mp hs
        exact ⟨by rw [hy, e8]; rfl, hMl, hFl⟩
      · refine aw_eqi (y := 1) (if_neg hs) ?_
        refine aw_if_eq C (tgt := 43) dX7_stuck_16 (by decide) (fun c9 => absurd c9 (by decide)) (fun _ => ?_)
        refine aw_aload_n C dX7_stuck_19 rfl ?_
        have hi : i < S.nQ := by rcases Nat.lt_or_eq_of_le hk with q | q; exact q; exact absurd (by rw [q]) hs
        refine aw_callF (n := 0) C hE (ci := 0) (q := (RJx35411, TJx35411, 4)) (k_nextQ B hMl hit hi hI.Q6) gX7_stuck_Jx35411_next_0502b_f116Jx35411 (va_Fw.moved (by decide) hE.1.alike B.fnext) rfl ⟨rfl, rfl⟩ (by decide +kernel) ⟨by decide, by decide⟩ rfl rfl hit rfl (Nat.le_of_ble_eq_true rfl) dX7_stuck_20 ⟨by decide, by decide⟩ (fun v μ' hp => ?_)
        obtain ⟨rfl, hm9⟩ := hp
        replace hm9 := hm9.symm
        subst hm9
        refine aw_st (st' := [.ref (K 9 i)]) rfl ?_
        refine aw_re (P := fun μ1 => RM g K e0 S X μ1 ∧ FrM K S.nA S.nQ μ μ1 ∧ μ1 o = some (.inr (0, [.int (nI (i + 1)), .int (nI i), .int (nI S.nQ), .ref (K 2 0)]))) ⟨hMl.it hit _, hFl.nwo fo, mp_s⟩ (fun μ2 hq => ?_)
        obtain ⟨hM2, hF2, hit2⟩ := hq
        refine aw_cast C (ci := 8) (by decide +kernel) (va_Nw.warmC hE.1 B.caXq) rfl (hM2.xq hi) dX7_stuck_25 ?_
        refine aw_astore_n C dX7_stuck_28 (by decide) ?_
        refine aw_iload_n C dX7_stuck_29 rfl ?_
        refine aw_aload_n C dX7_stuck_30 rfl ?_
        refine aw_iconst C (v := 1) (by decide) dX7_stuck_31 ?_
        refine aw_callV (n := 1) C hE (ci := 8) (q := (RX6, TX6, 5)) (k_X6_set (f := S.F i) (x := 1) B (hM2.xq hi) (hM2.wh hi)) gX7_stuck_X6_set rfl ⟨rfl, rfl⟩ (by decide +kernel) ⟨by decide, by decide⟩ rfl rfl (hM2.xq hi) rfl (Nat.le_of_ble_eq_true rfl) dX7_stuck_32 ⟨by decide, by decide⟩ (fun v μ' hp => ?_)
        obtain ⟨rfl, hm9⟩ := hp
        replace hm9 := hm9.symm
        subst hm9
        refine aw_st (st' := [.int (setN (S.F i) 1 12), .int y]) rfl ?_
        refine aw_callS (n := 1) C hE (k_J6_bitCount_0f7a4 (x := (setN (S.F i) 1 12)) B) gX7_stuck_J6_bitCount_0f7a4 rfl ⟨rfl, rfl⟩ (by decide +kernel) ⟨by decide, by decide⟩ rfl rfl (Nat.le_of_ble_eq_true rfl) dX7_stuck_35 ⟨by decide, by decide⟩ (fun v μ' hp => ?_)
        obtain ⟨rfl, hm9⟩ := hp
        replace hm9 := hm9.symm
        subst hm9
        refine aw_st (st' := [.int (bcF (setN (S.F i) 1 12)), .int y]) rfl ?_
        refine aw_iadd C dX7_stuck_38 ?_
        refine aw_istore_n C dX7_stuck_39 (by decide) ?_
        refine aw_goto C (tgt := 10) dX7_stuck_40 (by decide) ?_
        refine aw_lv (lv' := [(0, .ref (K 0 0)), (1, .int (y + (bcF (setN (S.F i) 1 12)))), (2, .ref o)]) ⟨rfl, rfl, rfl, trivial⟩ ?_
        exact ih _ (by omega) (i + 1) (nI i) (y + (bcF (setN (S.F i) 1 12))) _ rfl hi (by rw [hy]; rfl) hM2 hF2 hit2
  exact loop10 _ 0 (-1) 0 _ rfl (Nat.zero_le _) rfl hM1 hF1 hit
set_option maxRecDepth 100000 in
set_option maxHeartbeats 4000000 in
theorem k_X7_tune (B : Base s0) {μ : mu} {K : Nat → Nat → Nat} {e0 : Nat} {S : SS} {X : XS} (hM : RM g K e0 S X μ) (hI : Iv S) {b : Nat} (hR : MR S X b) {x y z : Int32} : Ct l yX7_tune wsX7_tune (rmOf 4 0 0 170) s0 D (tyL g) [.ref (K 0 0), .int x, .int y, .int z] μ 0 0 (fun v9 μ' => (∃ r : Int32, v9 = some (.int r) ∧ (tuC S x y z = 0 → r = S.A (ix x) 2)) ∧ PMx g K e0 S (tuS S (ix x) y z) (tuC S x y z) b μ μ') := by
  refine Ct.of (cc := cX7_tune) (own := RX7) (maxL := 6) (ret := (some .int)) (by decide) rfl rfl (Nat.le_of_ble_eq_true rfl) ?_
  intro p e s m args below meth c Q C hE hnm hQe
  have in_RX7 : ∀ w ∈ u_ws RX7 TX7 22, w ∈ wsX7_tune := by decide +kernel
  have in_RX5 : ∀ w ∈ u_ws RX5 TX5 12, w ∈ wsX7_tune := by decide +kernel
  have f39 : FL wsX7_tune RX7 39 9 "ArrowFieldModel" RX7 TX7 22 0 := ⟨in_RX7, rfl, by decide, by decide +kernel, Or.inl rfl⟩
  have f10 : FL wsX7_tune RX7 10 9 "ArrowFieldModel" RX7 TX7 22 1 := ⟨in_RX7, rfl, by decide, by decide +kernel, Or.inl rfl⟩
  have f97 : FN s0 wsX7_tune RX7 97 7 "ArrowFieldModel$Archer" RX5 TX5 12 2 "ArrowFieldModel" := ⟨in_RX5, rfl, by decide, B.fnRX7_97, rfl⟩
  have f100 : FN s0 wsX7_tune RX7 100 7 "ArrowFieldModel$Archer" RX5 TX5 12 3 "ArrowFieldModel" := ⟨in_RX5, rfl, by decide, B.fnRX7_100, rfl⟩
  refine aw_aload_n C dX7_tune_0 rfl ?_
  refine aw_iconst C (v := 0) (by decide) dX7_tune_1 ?_
  refine aw_putE C f39 ftX7 (ty := .int) (by decide +kernel) rfl rfl hM.mo (Nat.le_of_ble_eq_true rfl) (fs' := [.int 0, .ref (K 1 0), .ref (K 2 0), .int (S.c 4), .int (S.c 5), .int (S.c 6), .int (S.c 9), .int (S.c 10), .int (S.c 8), .int (S.c 13), .int (S.c 7), .int (S.c 11), .int (S.c 14), .ref (K 3 0), .ref (K 4 0), .ref (K 5 0), .double X.ne, .int (nI X.T), .int X.il, .double X.h, .double X.v, .long X.sm]) rfl dX7_tune_2 ?_
  refine aw_re (P := fun μ1 => RM g K e0 S (X.wth 0) μ1 ∧ FrM K S.nA S.nQ μ μ1) ⟨hM.setX (X.wth 0) rfl rfl rfl, (FrM.rf : FrM K S.nA S.nQ μ μ).mpw (m0 (by decide))⟩ (fun μ1 hq => ?_)
  obtain ⟨hM1, hF1⟩ := hq
  refine aw_aload_n C dX7_tune_5 rfl ?_
  refine aw_iload_n C dX7_tune_6 rfl ?_
  refine aw_callV (n := 1) C hE (ci := 9) (q := (RX7, TX7, 22)) (k_X7_isArcher (x := x) B hM1 hI) gX7_tune_X7_isArcher rfl ⟨rfl, rfl⟩ (by decide +kernel) ⟨by decide, by decide⟩ rfl rfl hM1.mo rfl (Nat.le_of_ble_eq_true rfl) dX7_tune_7 ⟨by decide, by decide⟩ (fun v μ' hp => ?_)
  obtain ⟨rfl, hm9⟩ := hp
  replace hm9 := hm9.symm
  subst hm9
  refine aw_st (st' := [.int (if inb x S.nA = true then 1 else 0)]) rfl ?_
  by_cases b7 : inb x S.nA = true
  · refine aw_eqi (y := 1) (if_pos b7) ?_
    refine aw_if_ne C (tgt := 19) dX7_tune_10 (by decide) (fun _ => ?_) (fun c9 => absurd c9 (by decide))
    refine aw_iload_n C dX7_tune_19 rfl ?_
    refine aw_iconst C (v := 0) (by decide) dX7_tune_20 ?_
    refine aw_bipush C (v := 127) (by decide) dX7_tune_21 ?_
    refine aw_callS (n := 3) C hE (k_X7_is (x := y) (lo := 0) (hi := 127) B) gX7_tune_X7_is rfl ⟨rfl, rfl⟩ (by decide +kernel) ⟨by decide, by decide⟩ rfl rfl (Nat.le_of_ble_eq_true rfl) dX7_tune_23 ⟨by decide, by decide⟩ (fun v μ' hp => ?_)
    obtain ⟨rfl, hm9⟩ := hp
    replace hm9 := hm9.symm
    subst hm9
    refine aw_st (st' := [.int (if btw y 0 127 = true then 1 else 0)]) rfl ?_
    by_cases b23 : btw y 0 127 = true
    · refine aw_eqi (y := 1) (if_pos b23) ?_
      refine aw_if_eq C (tgt := 40) dX7_tune_26 (by decide) (fun c9 => absurd c9 (by decide)) (fun _ => ?_)
      refine aw_iload_n C dX7_tune_29 rfl ?_
      refine aw_bipush C (v := (-8)) (by decide) dX7_tune_30 ?_
      refine aw_bipush C (v := 8) (by decide) dX7_tune_32 ?_
      refine aw_callS (n := 3) C hE (k_X7_is (x := z) (lo := (-8)) (hi := 8) B) gX7_tune_X7_is rfl ⟨rfl, rfl⟩ (by decide +kernel) ⟨by decide, by decide⟩ rfl rfl (Nat.le_of_ble_eq_true rfl) dX7_tune_34 ⟨by decide, by decide⟩ (fun v μ' hp => ?_)
      obtain ⟨rfl, hm9⟩ := hp
      replace hm9 := hm9.symm
      subst hm9
      refine aw_st (st' := [.int (if btw z (-8) 8 = true then 1 else 0)]) rfl ?_
      by_cases b34 : btw z (-8) 8 = true
      · refine aw_eqi (y := 1) (if_pos b34) ?_
        refine aw_if_ne C (tgt := 46) dX7_tune_37 (by decide) (fun _ => ?_) (fun c9 => absurd c9 (by decide))
        obtain ⟨j, hj, rfl⟩ := inb_of b7 (by have := hI.A6; omega)
        refine aw_aload_n C dX7_tune_46 rfl ?_
        refine aw_get C f10 hM1.mo rfl dX7_tune_47 ?_
        refine aw_iload_n C dX7_tune_50 rfl ?_
        refine aw_callV (n := 1) C hE (ci := 1) (q := (RJx4a65c, TJx4a65c, 3)) (k_getA B hM1 hI hj) gX7_tune_Jx4a65c_get_915e3 rfl ⟨rfl, rfl⟩ (by decide +kernel) ⟨by decide, by decide⟩ rfl rfl hM1.aL rfl (Nat.le_of_ble_eq_true rfl) dX7_tune_51 ⟨by decide, by decide⟩ (fun v μ' hp => ?_)
        obtain ⟨rfl, hm9⟩ := hp
        replace hm9 := hm9.symm
        subst hm9
        refine aw_st (st' := [.ref (K 8 j)]) rfl ?_
        refine aw_cast C (ci := 7) (by decide +kernel) (va_Nw.warmC hE.1 B.caXa) rfl (hM1.xa hj) dX7_tune_54 ?_
        refine aw_astore C dX7_tune_57 (by decide) ?_
        refine aw_aload C dX7_tune_59 rfl ?_
        refine aw_getN C hE f97 (hM1.xa hj) rfl dX7_tune_61 ?_
        refine aw_istore C dX7_tune_64 (by decide) ?_
        refine aw_aload C dX7_tune_66 rfl ?_
        refine aw_iload_n C dX7_tune_68 rfl ?_
        refine aw_putNE C hE f97 ftX5 (ty := .int) (by decide +kernel) rfl rfl (hM1.xa hj) (Nat.le_of_ble_eq_true rfl) (fs' := [.int (S.A j 0), .int (S.A j 1), .int y, .int (S.A j 3), .float (S.cr j), .int (S.A j 5), .int (S.A j 6), .int (S.A j 7), .int (S.A j 8), .int (S.A j 9), .int (S.A j 10), .int (S.A j 11)]) rfl dX7_tune_69 ?_
        refine aw_re (P := fun μ1 => RM g K e0 (S.wA (fu S.A j (upd (S.A j) 2 y))) (X.wth 0) μ1 ∧ FrM K S.nA S.nQ μ μ1) ⟨hM1.setXA hj (upd (S.A j) 2 y), hF1.mpw (m8 hj)⟩ (fun μ2 hq => ?_)
        obtain ⟨hM2, hF2⟩ := hq
        refine aw_aload C dX7_tune_72 rfl ?_
        refine aw_iload_n C dX7_tune_74 rfl ?_
        refine aw_putNE C hE f100 ftX5 (ty := .int) (by decide +kernel) rfl rfl (hM2.xa hj) (Nat.le_of_ble_eq_true rfl) (fs' := [.int ((S.wA (fu S.A j (upd (S.A j) 2 y))).A j 0), .int ((S.wA (fu S.A j (upd (S.A j) 2 y))).A j 1), .int ((S.wA (fu S.A j (upd (S.A j) 2 y))).A j 2), .int z, .float ((S.wA (fu S.A j (upd (S.A j) 2 y))).cr j), .int ((S.wA (fu S.A j (upd (S.A j) 2 y))).A j 5), .int ((S.wA (fu S.A j (upd (S.A j) 2 y))).A j 6), .int ((S.wA (fu S.A j (upd (S.A j) 2 y))).A j 7), .int ((S.wA (fu S.A j (upd (S.A j) 2 y))).A j 8), .int ((S.wA (fu S.A j (upd (S.A j) 2 y))).A j 9), .int ((S.wA (fu S.A j (upd (S.A j) 2 y))).A j 10), .int ((S.wA (fu S.A j (upd (S.A j) 2 y))).A j 11)]) rfl dX7_tune_75 ?_
        refine aw_re (P := fun μ1 => RM g K e0 ((S.wA (fu S.A j (upd (S.A j) 2 y))).wA (fu (S.wA (fu S.A j (upd (S.A j) 2 y))).A j (upd ((S.wA (fu S.A j (upd (S.A j) 2 y))).A j) 3 z))) (X.wth 0) μ1 ∧ FrM K S.nA S.nQ μ μ1) ⟨hM2.setXA hj (upd ((S.wA (fu S.A j (upd (S.A j) 2 y))).A j) 3 z), hF2.mpw (m8 hj)⟩ (fun μ3 hq => ?_)
        obtain ⟨hM3, hF3⟩ := hq
        refine aw_iload C dX7_tune_78 rfl ?_
        refine aw_iret C hQe ?_ (by omega) (by omega) dX7_tune_80
        have e9 : (S.wA (fu S.A j (upd (S.A j) 2 y))).wA (fu (S.wA (fu S.A j (upd (S.A j) 2 y))).A j (upd ((S.wA (fu S.A j (upd (S.A j) 2 y))).A j) 3 z)) = tuS S j y z := by
          unfold tuS
          show S.wA (fu (fu S.A j _) j (upd (fu S.A j _ j) 3 z)) = _
          rw [fu_fu, fu_s]
        have hc : tuC S (nI j) y z = 0 := by simp [tuC, b7, b23, b34]
        rw [hc]
        rw [show ix (nI j) = j from ix_nI hj (by have := hI.A6; omega)]
        exact ⟨⟨_, rfl, fun _ => rfl⟩, ⟨X.wth 0, (by rw [← e9]; exact hM3), hR, rfl⟩, hF3⟩
      · refine aw_eqi (y := 0) (if_neg b34) ?_
        refine aw_if_ne C (tgt := 46) dX7_tune_37 (by decide) (fun c9 => absurd (by decide) c9) (fun _ => ?_)
        refine aw_aload_n C dX7_tune_40 rfl ?_
        refine aw_iconst C (v := 2) (by decide) dX7_tune_41 ?_
        refine aw_callV (n := 1) C hE (ci := 9) (q := (RX7, TX7, 22)) (k_X7_refuse (x := 2) B hM1) gX7_tune_X7_refuse rfl ⟨rfl, rfl⟩ (by decide +kernel) ⟨by decide, by decide⟩ rfl rfl hM1.mo rfl (Nat.le_of_ble_eq_true rfl) dX7_tune_42 ⟨by decide, by decide⟩ (fun v μ' hp => ?_)
        obtain ⟨rfl, hM2, hG2⟩ := hp
        have hF2 : FrM K S.nA S.nQ μ _ := hF1.tr hG2
        refine aw_st (st' := [.int 0]) rfl ?_
        refine aw_iret C hQe ?_ (by omega) (by omega) dX7_tune_45
        have hc : tuC S x y z = 2 := by simp [tuC, b7, b23, b34]
        rw [hc]
        exact ⟨⟨_, rfl, fun q => absurd q (by decide)⟩, ⟨(X.wth 0).wth 2, hM2, hR, rfl⟩, hF2⟩
    · refine aw_eqi (y := 0) (if_neg b23) ?_
      refine aw_if_eq C (tgt := 40) dX7_tune_26 (by decide) (fun _ => ?_) (fun c9 => absurd (by decide) c9)
      refine aw_aload_n C dX7_tune_40 rfl ?_
      refine aw_iconst C (v := 2) (by decide) dX7_tune_41 ?_
      refine aw_callV (n := 1) C hE (ci := 9) (q := (RX7, TX7, 22)) (k_X7_refuse (x := 2) B hM1) gX7_tune_X7_refuse rfl ⟨rfl, rfl⟩ (by decide +kernel) ⟨by decide, by decide⟩ rfl rfl hM1.mo rfl (Nat.le_of_ble_eq_true rfl) dX7_tune_42 ⟨by decide, by decide⟩ (fun v μ' hp => ?_)
      obtain ⟨rfl, hM2, hG2⟩ := hp
      have hF2 : FrM K S.nA S.nQ μ _ := hF1.tr hG2
      refine aw_st (st' := [.int 0]) rfl ?_
      refine aw_iret C hQe ?_ (by omega) (by omega) dX7_tune_45
      have hc : tuC S x y z = 2 := by simp [tuC, b7, b23]
      rw [hc]
      exact ⟨⟨_, rfl, fun q => absurd q (by decide)⟩, ⟨(X.wth 0).wth 2, hM2, hR, rfl⟩, hF2⟩
  · refine aw_eqi (y := 0) (if_neg b7) ?_
    refine aw_if_ne C (tgt := 19) dX7_tune_10 (by decide) (fun c9 => absurd (by decide) c9) (fun _ => ?_)
    refine aw_aload_n C dX7_tune_13 rfl ?_
    refine aw_iconst C (v := 1) (by decide) dX7_tune_14 ?_
    refine aw_callV (n := 1) C hE (ci := 9) (q := (RX7, TX7, 22)) (k_X7_refuse (x := 1) B hM1) gX7_tune_X7_refuse rfl ⟨rfl, rfl⟩ (by decide +kernel) ⟨by decide, by decide⟩ rfl rfl hM1.mo rfl (Nat.le_of_ble_eq_true rfl) dX7_tune_15 ⟨by decide, by decide⟩ (fun v μ' hp => ?_)
    obtain ⟨rfl, hM2, hG2⟩ := hp
    have hF2 : FrM K S.nA S.nQ μ _ := hF1.tr hG2
    refine aw_st (st' := [.int 0]) rfl ?_
    refine aw_iret C hQe ?_ (by omega) (by omega) dX7_tune_18
    have hc : tuC S x y z = 1 := by simp [tuC, b7]
    rw [hc]
    exact ⟨⟨_, rfl, fun q => absurd q (by decide)⟩, ⟨(X.wth 0).wth 1, hM2, hR, rfl⟩, hF2⟩
set_option maxRecDepth 100000 in
set_option maxHeartbeats 4000000 in
theorem k_X7_wind (B : Base s0) {μ : mu} {K : Nat → Nat → Nat} {e0 : Nat} {S : SS} {X : XS} (hM : RM g K e0 S X μ) (hI : Iv S) {b : Nat} (hR : MR S X b) {y : Int32} : Ct l yX7_wind wsX7_wind (rmOf 3 0 0 150) s0 D (tyL g) [.ref (K 0 0), .int y] μ 0 0 (fun v9 μ' => (∃ r : Int32, v9 = some (.int r) ∧ (wiC y = 0 → r = S.c 5)) ∧ PMx g K e0 S (wiS S y) (wiC y) b μ μ') := by
  refine Ct.of (cc := cX7_wind) (own := RX7) (maxL := 3) (ret := (some .int)) (by decide) rfl rfl (Nat.le_of_ble_eq_true rfl) ?_
  intro p e s m args below meth c Q C hE hnm hQe
  have in_RX7 : ∀ w ∈ u_ws RX7 TX7 22, w ∈ wsX7_wind := by decide +kernel
  have f39 : FL wsX7_wind RX7 39 9 "ArrowFieldModel" RX7 TX7 22 0 := ⟨in_RX7, rfl, by decide, by decide +kernel, Or.inl rfl⟩
  have f131 : FL wsX7_wind RX7 131 9 "ArrowFieldModel" RX7 TX7 22 4 := ⟨in_RX7, rfl, by decide, by decide +kernel, Or.inl rfl⟩
  refine aw_aload_n C dX7_wind_0 rfl ?_
  refine aw_iconst C (v := 0) (by decide) dX7_wind_1 ?_
  refine aw_putE C f39 ftX7 (ty := .int) (by decide +kernel) rfl rfl hM.mo (Nat.le_of_ble_eq_true rfl) (fs' := [.int 0, .ref (K 1 0), .ref (K 2 0), .int (S.c 4), .int (S.c 5), .int (S.c 6), .int (S.c 9), .int (S.c 10), .int (S.c 8), .int (S.c 13), .int (S.c 7), .int (S.c 11), .int (S.c 14), .ref (K 3 0), .ref (K 4 0), .ref (K 5 0), .double X.ne, .int (nI X.T), .int X.il, .double X.h, .double X.v, .long X.sm]) rfl dX7_wind_2 ?_
  refine aw_re (P := fun μ1 => RM g K e0 S (X.wth 0) μ1 ∧ FrM K S.nA S.nQ μ μ1) ⟨hM.setX (X.wth 0) rfl rfl rfl, (FrM.rf : FrM K S.nA S.nQ μ μ).mpw (m0 (by decide))⟩ (fun μ1 hq => ?_)
  obtain ⟨hM1, hF1⟩ := hq
  refine aw_iload_n C dX7_wind_5 rfl ?_
  refine aw_bipush C (v := (-16)) (by decide) dX7_wind_6 ?_
  refine aw_bipush C (v := 16) (by decide) dX7_wind_8 ?_
  refine aw_callS (n := 3) C hE (k_X7_is (x := y) (lo := (-16)) (hi := 16) B) gX7_wind_X7_is rfl ⟨rfl, rfl⟩ (by decide +kernel) ⟨by decide, by decide⟩ rfl rfl (Nat.le_of_ble_eq_true rfl) dX7_wind_10 ⟨by decide, by decide⟩ (fun v μ' hp => ?_)
  obtain ⟨rfl, hm9⟩ := hp
  replace hm9 := hm9.symm
  subst hm9
  refine aw_st (st' := [.int (if btw y (-16) 16 = true then 1 else 0)]) rfl ?_
  by_cases b10 : btw y (-16) 16 = true
  · refine aw_eqi (y := 1) (if_pos b10) ?_
    refine aw_if_ne C (tgt := 22) dX7_wind_13 (by decide) (fun _ => ?_) (fun c9 => absurd c9 (by decide))
    refine aw_aload_n C dX7_wind_22 rfl ?_
    refine aw_get C f131 hM1.mo rfl dX7_wind_23 ?_
    refine aw_istore_n C dX7_wind_26 (by decide) ?_
    refine aw_aload_n C dX7_wind_27 rfl ?_
    refine aw_iload_n C dX7_wind_28 rfl ?_
    refine aw_putE C f131 ftX7 (ty := .int) (by decide +kernel) rfl rfl hM1.mo (Nat.le_of_ble_eq_true rfl) (fs' := [.int 0, .ref (K 1 0), .ref (K 2 0), .int (S.c 4), .int y, .int (S.c 6), .int (S.c 9), .int (S.c 10), .int (S.c 8), .int (S.c 13), .int (S.c 7), .int (S.c 11), .int (S.c 14), .ref (K 3 0), .ref (K 4 0), .ref (K 5 0), .double ((X.wth 0).ne), .int (nI (X.wth 0).T), .int ((X.wth 0).il), .double ((X.wth 0).h), .double ((X.wth 0).v), .long ((X.wth 0).sm)]) rfl dX7_wind_29 ?_
    refine aw_re (P := fun μ1 => RM g K e0 (S.wc (upd S.c 5 y)) (X.wth 0) μ1 ∧ FrM K S.nA S.nQ μ μ1) ⟨hM1.setMo (upd S.c 5 y) (X.wth 0) rfl rfl rfl, hF1.mpw (m0 (by decide))⟩ (fun μ2 hq => ?_)
    obtain ⟨hM2, hF2⟩ := hq
    refine aw_iload_n C dX7_wind_32 rfl ?_
    refine aw_iret C hQe ?_ (by omega) (by omega) dX7_wind_33
    have hc : wiC y = 0 := by simp [wiC, b10]
    rw [hc]
    exact ⟨⟨_, rfl, fun _ => rfl⟩, ⟨X.wth 0, hM2, hR, rfl⟩, hF2⟩
  · refine aw_eqi (y := 0) (if_neg b10) ?_
    refine aw_if_ne C (tgt := 22) dX7_wind_13 (by decide) (fun c9 => absurd (by decide) c9) (fun _ => ?_)
    refine aw_aload_n C dX7_wind_16 rfl ?_
    refine aw_iconst C (v := 1) (by decide) dX7_wind_17 ?_
    refine aw_callV (n := 1) C hE (ci := 9) (q := (RX7, TX7, 22)) (k_X7_refuse (x := 1) B hM1) gX7_wind_X7_refuse rfl ⟨rfl, rfl⟩ (by decide +kernel) ⟨by decide, by decide⟩ rfl rfl hM1.mo rfl (Nat.le_of_ble_eq_true rfl) dX7_wind_18 ⟨by decide, by decide⟩ (fun v μ' hp => ?_)
    obtain ⟨rfl, hM2, hG2⟩ := hp
    have hF2 : FrM K S.nA S.nQ μ _ := hF1.tr hG2
    refine aw_st (st' := [.int 0]) rfl ?_
    refine aw_iret C hQe ?_ (by omega) (by omega) dX7_wind_21
    have hc : wiC y = 1 := by simp [wiC, b10]
    rw [hc]
    exact ⟨⟨_, rfl, fun q => absurd q (by decide)⟩, ⟨(X.wth 0).wth 1, hM2, hR, rfl⟩, hF2⟩
set_option maxRecDepth 100000 in
set_option maxHeartbeats 4000000 in
theorem k_X7_horn (B : Base s0) {μ : mu} {K : Nat → Nat → Nat} {e0 : Nat} {S : SS} {X : XS} (hM : RM g K e0 S X μ) (hI : Iv S) {b : Nat} (hR : MR S X b)  : Ct l yX7_horn wsX7_horn (rmOf 0 0 0 0) s0 D (tyL g) [.ref (K 0 0)] μ 0 0 (fun v9 μ' => (∃ r : Int32, v9 = some (.int r) ∧ ((0 : Nat) = 0 → r = S.c 11 + 1)) ∧ PMx g K e0 S (hoS S) (0 : Nat) b μ μ') := by
  refine Ct.of (cc := cX7_horn) (own := RX7) (maxL := 1) (ret := (some .int)) (by decide) rfl rfl (Nat.le_of_ble_eq_true rfl) ?_
  intro p e s m args below meth c Q C hE hnm hQe
  have in_RX7 : ∀ w ∈ u_ws RX7 TX7 22, w ∈ wsX7_horn := by decide +kernel
  have f39 : FL wsX7_horn RX7 39 9 "ArrowFieldModel" RX7 TX7 22 0 := ⟨in_RX7, rfl, by decide, by decide +kernel, Or.inl rfl⟩
  have f253 : FL wsX7_horn RX7 253 9 "ArrowFieldModel" RX7 TX7 22 11 := ⟨in_RX7, rfl, by decide, by decide +kernel, Or.inl rfl⟩
  refine aw_aload_n C dX7_horn_0 rfl ?_
  refine aw_iconst C (v := 0) (by decide) dX7_horn_1 ?_
  refine aw_putE C f39 ftX7 (ty := .int) (by decide +kernel) rfl rfl hM.mo (Nat.le_of_ble_eq_true rfl) (fs' := [.int 0, .ref (K 1 0), .ref (K 2 0), .int (S.c 4), .int (S.c 5), .int (S.c 6), .int (S.c 9), .int (S.c 10), .int (S.c 8), .int (S.c 13), .int (S.c 7), .int (S.c 11), .int (S.c 14), .ref (K 3 0), .ref (K 4 0), .ref (K 5 0), .double X.ne, .int (nI X.T), .int X.il, .double X.h, .double X.v, .long X.sm]) rfl dX7_horn_2 ?_
  refine aw_re (P := fun μ1 => RM g K e0 S (X.wth 0) μ1 ∧ FrM K S.nA S.nQ μ μ1) ⟨hM.setX (X.wth 0) rfl rfl rfl, (FrM.rf : FrM K S.nA S.nQ μ μ).mpw (m0 (by decide))⟩ (fun μ1 hq => ?_)
  obtain ⟨hM1, hF1⟩ := hq
  refine aw_aload_n C dX7_horn_5 rfl ?_
  refine aw_dup C rfl dX7_horn_6 ?_
  refine aw_get C f253 hM1.mo rfl dX7_horn_7 ?_
  refine aw_iconst C (v := 1) (by decide) dX7_horn_10 ?_
  refine aw_iadd C dX7_horn_11 ?_
  refine aw_putE C f253 ftX7 (ty := .int) (by decide +kernel) rfl rfl hM1.mo (Nat.le_of_ble_eq_true rfl) (fs' := [.int 0, .ref (K 1 0), .ref (K 2 0), .int (S.c 4), .int (S.c 5), .int (S.c 6), .int (S.c 9), .int (S.c 10), .int (S.c 8), .int (S.c 13), .int (S.c 7), .int ((S.c 11) + 1), .int (S.c 14), .ref (K 3 0), .ref (K 4 0), .ref (K 5 0), .double ((X.wth 0).ne), .int (nI (X.wth 0).T), .int ((X.wth 0).il), .double ((X.wth 0).h), .double ((X.wth 0).v), .long ((X.wth 0).sm)]) rfl dX7_horn_12 ?_
  refine aw_re (P := fun μ1 => RM g K e0 (S.wc (upd S.c 11 ((S.c 11) + 1))) (X.wth 0) μ1 ∧ FrM K S.nA S.nQ μ μ1) ⟨hM1.setMo (upd S.c 11 ((S.c 11) + 1)) (X.wth 0) rfl rfl rfl, hF1.mpw (m0 (by decide))⟩ (fun μ2 hq => ?_)
  obtain ⟨hM2, hF2⟩ := hq
  refine aw_aload_n C dX7_horn_15 rfl ?_
  refine aw_get C f253 hM2.mo rfl dX7_horn_16 ?_
  refine aw_iret C hQe ?_ (by omega) (by omega) dX7_horn_19
  exact ⟨⟨_, rfl, fun _ => rfl⟩, ⟨_, hM2, hR, rfl⟩, hF2⟩
set_option maxRecDepth 100000 in
set_option maxHeartbeats 4000000 in
theorem k_X7_close (B : Base s0) {μ : mu} {K : Nat → Nat → Nat} {e0 : Nat} {S : SS} {X : XS} (hM : RM g K e0 S X μ) (hI : Iv S) {b : Nat} (hR : MR S X b) {y : Int32} (hb : y = 0 ∨ y = 1) : Ct l yX7_close wsX7_close (rmOf 0 0 0 0) s0 D (tyL g) [.ref (K 0 0), .int y] μ 0 0 (fun v9 μ' => (∃ r : Int32, v9 = some (.int r) ∧ ((0 : Nat) = 0 → r = S.c 7)) ∧ PMx g K e0 S (clS S y) (0 : Nat) b μ μ') := by
  refine Ct.of (cc := cX7_close) (own := RX7) (maxL := 3) (ret := (some .boolean)) (by decide) rfl rfl (Nat.le_of_ble_eq_true rfl) ?_
  intro p e s m args below meth c Q C hE hnm hQe
  have in_RX7 : ∀ w ∈ u_ws RX7 TX7 22, w ∈ wsX7_close := by decide +kernel
  have f39 : FL wsX7_close RX7 39 9 "ArrowFieldModel" RX7 TX7 22 0 := ⟨in_RX7, rfl, by decide, by decide +kernel, Or.inl rfl⟩
  have f182 : FL wsX7_close RX7 182 9 "ArrowFieldModel" RX7 TX7 22 10 := ⟨in_RX7, rfl, by decide, by decide +kernel, Or.inl rfl⟩
  refine aw_aload_n C dX7_close_0 rfl ?_
  refine aw_iconst C (v := 0) (by decide) dX7_close_1 ?_
  refine aw_putE C f39 ftX7 (ty := .int) (by decide +kernel) rfl rfl hM.mo (Nat.le_of_ble_eq_true rfl) (fs' := [.int 0, .ref (K 1 0), .ref (K 2 0), .int (S.c 4), .int (S.c 5), .int (S.c 6), .int (S.c 9), .int (S.c 10), .int (S.c 8), .int (S.c 13), .int (S.c 7), .int (S.c 11), .int (S.c 14), .ref (K 3 0), .ref (K 4 0), .ref (K 5 0), .double X.ne, .int (nI X.T), .int X.il, .double X.h, .double X.v, .long X.sm]) rfl dX7_close_2 ?_
  refine aw_re (P := fun μ1 => RM g K e0 S (X.wth 0) μ1 ∧ FrM K S.nA S.nQ μ μ1) ⟨hM.setX (X.wth 0) rfl rfl rfl, (FrM.rf : FrM K S.nA S.nQ μ μ).mpw (m0 (by decide))⟩ (fun μ1 hq => ?_)
  obtain ⟨hM1, hF1⟩ := hq
  refine aw_aload_n C dX7_close_5 rfl ?_
  refine aw_get C f182 hM1.mo rfl dX7_close_6 ?_
  refine aw_istore_n C dX7_close_9 (by decide) ?_
  refine aw_aload_n C dX7_close_10 rfl ?_
  refine aw_iload_n C dX7_close_11 rfl ?_
  refine aw_putE C f182 ftX7 (ty := .boolean) (by decide +kernel) (b01 hb) (b01_fits hb) hM1.mo (Nat.le_of_ble_eq_true rfl) (fs' := [.int 0, .ref (K 1 0), .ref (K 2 0), .int (S.c 4), .int (S.c 5), .int (S.c 6), .int (S.c 9), .int (S.c 10), .int (S.c 8), .int (S.c 13), .int y, .int (S.c 11), .int (S.c 14), .ref (K 3 0), .ref (K 4 0), .ref (K 5 0), .double ((X.wth 0).ne), .int (nI (X.wth 0).T), .int ((X.wth 0).il), .double ((X.wth 0).h), .double ((X.wth 0).v), .long ((X.wth 0).sm)]) rfl dX7_close_12 ?_
  refine aw_re (P := fun μ1 => RM g K e0 (S.wc (upd S.c 7 y)) (X.wth 0) μ1 ∧ FrM K S.nA S.nQ μ μ1) ⟨hM1.setMo (upd S.c 7 y) (X.wth 0) rfl rfl rfl, hF1.mpw (m0 (by decide))⟩ (fun μ2 hq => ?_)
  obtain ⟨hM2, hF2⟩ := hq
  refine aw_iload_n C dX7_close_15 rfl ?_
  refine aw_zret C hQe (b01 hI.2.2.1) ?_ (by omega) (by omega) dX7_close_16
  exact ⟨⟨_, rfl, fun _ => rfl⟩, ⟨_, hM2, hR, rfl⟩, hF2⟩
set_option maxRecDepth 100000 in
set_option maxHeartbeats 4000000 in
theorem k_X7_breakOff (B : Base s0) {μ : mu} {K : Nat → Nat → Nat} {e0 : Nat} {S : SS} {X : XS} (hM : RM g K e0 S X μ) (hI : Iv S) {b : Nat} (hR : MR S X b)  : Ct l yX7_breakOff wsX7_breakOff (rmOf 3 0 0 150) s0 D (tyL g) [.ref (K 0 0)] μ 0 0 (fun v9 μ' => (∃ r : Int32, v9 = some (.int r) ∧ (brC S = 0 → r = S.t 3 * 10 + S.t 4)) ∧ PMx g K e0 S (brS S) (brC S) b μ μ') := by
  refine Ct.of (cc := cX7_breakOff) (own := RX7) (maxL := 1) (ret := (some .int)) (by decide) rfl rfl (Nat.le_of_ble_eq_true rfl) ?_
  intro p e s m args below meth c Q C hE hnm hQe
  have in_RX7 : ∀ w ∈ u_ws RX7 TX7 22, w ∈ wsX7_breakOff := by decide +kernel
  have f39 : FL wsX7_breakOff RX7 39 9 "ArrowFieldModel" RX7 TX7 22 0 := ⟨in_RX7, rfl, by decide, by decide +kernel, Or.inl rfl⟩
  have f29 : FL wsX7_breakOff RX7 29 9 "ArrowFieldModel" RX7 TX7 22 13 := ⟨in_RX7, rfl, by decide, by decide +kernel, Or.inl rfl⟩
  have f33 : FL wsX7_breakOff RX7 33 9 "ArrowFieldModel" RX7 TX7 22 14 := ⟨in_RX7, rfl, by decide, by decide +kernel, Or.inl rfl⟩
  refine aw_aload_n C dX7_breakOff_0 rfl ?_
  refine aw_iconst C (v := 0) (by decide) dX7_breakOff_1 ?_
  refine aw_putE C f39 ftX7 (ty := .int) (by decide +kernel) rfl rfl hM.mo (Nat.le_of_ble_eq_true rfl) (fs' := [.int 0, .ref (K 1 0), .ref (K 2 0), .int (S.c 4), .int (S.c 5), .int (S.c 6), .int (S.c 9), .int (S.c 10), .int (S.c 8), .int (S.c 13), .int (S.c 7), .int (S.c 11), .int (S.c 14), .ref (K 3 0), .ref (K 4 0), .ref (K 5 0), .double X.ne, .int (nI X.T), .int X.il, .double X.h, .double X.v, .long X.sm]) rfl dX7_breakOff_2 ?_
  refine aw_re (P := fun μ1 => RM g K e0 S (X.wth 0) μ1 ∧ FrM K S.nA S.nQ μ μ1) ⟨hM.setX (X.wth 0) rfl rfl rfl, (FrM.rf : FrM K S.nA S.nQ μ μ).mpw (m0 (by decide))⟩ (fun μ1 hq => ?_)
  obtain ⟨hM1, hF1⟩ := hq
  refine aw_aload_n C dX7_breakOff_5 rfl ?_
  refine aw_callV (n := 0) C hE (ci := 9) (q := (RX7, TX7, 22)) (k_X7_isOn B hM1 hI hR) gX7_breakOff_X7_isOn rfl ⟨rfl, rfl⟩ (by decide +kernel) ⟨by decide, by decide⟩ rfl rfl hM1.mo rfl (Nat.le_of_ble_eq_true rfl) dX7_breakOff_6 ⟨by decide, by decide⟩ (fun v μ' hp => ?_)
  obtain ⟨rfl, hm9⟩ := hp
  replace hm9 := hm9.symm
  subst hm9
  refine aw_st (st' := [.int (if S.t 0 = 0 then 0 else 1)]) rfl ?_
  by_cases b6 : S.t 0 = 0
  · refine aw_eqi (y := 0) (if_pos b6) ?_
    refine aw_if_ne C (tgt := 18) dX7_breakOff_9 (by decide) (fun c9 => absurd (by decide) c9) (fun _ => ?_)
    refine aw_aload_n C dX7_breakOff_12 rfl ?_
    refine aw_iconst C (v := 1) (by decide) dX7_breakOff_13 ?_
    refine aw_callV (n := 1) C hE (ci := 9) (q := (RX7, TX7, 22)) (k_X7_refuse (x := 1) B hM1) gX7_breakOff_X7_refuse rfl ⟨rfl, rfl⟩ (by decide +kernel) ⟨by decide, by decide⟩ rfl rfl hM1.mo rfl (Nat.le_of_ble_eq_true rfl) dX7_breakOff_14 ⟨by decide, by decide⟩ (fun v μ' hp => ?_)
    obtain ⟨rfl, hM2, hG2⟩ := hp
    have hF2 : FrM K S.nA S.nQ μ _ := hF1.tr hG2
    refine aw_st (st' := [.int 0]) rfl ?_
    refine aw_iret C hQe ?_ (by omega) (by omega) dX7_breakOff_17
    have hc : brC S = 1 := by simp [brC, b6]
    rw [hc]
    exact ⟨⟨_, rfl, fun q => absurd q (by decide)⟩, ⟨(X.wth 0).wth 1, hM2, hR, rfl⟩, hF2⟩
  · refine aw_eqi (y := 1) (if_neg b6) ?_
    refine aw_if_ne C (tgt := 18) dX7_breakOff_9 (by decide) (fun _ => ?_) (fun c9 => absurd c9 (by decide))
    refine aw_aload_n C dX7_breakOff_18 rfl ?_
    refine aw_get C f29 hM1.mo rfl dX7_breakOff_19 ?_
    refine aw_iconst C (v := 0) (by decide) dX7_breakOff_22 ?_
    refine aw_iconst C (v := (-1)) (by decide) dX7_breakOff_23 ?_
    refine aw_iastE C hM1.pa (by decide : (0 : Int32) = nI 0) ⟨by decide, by decide⟩ dX7_breakOff_24 ?_
    refine aw_re (P := fun μ1 => RM g K e0 S ((X.wth 0).wpa (upd (X.wth 0).pa 0 (-1))) μ1 ∧ FrM K S.nA S.nQ μ μ1) ⟨hM1.setPa (upd (X.wth 0).pa 0 (-1)), hF1.mpw (m0 (by decide))⟩ (fun μ2 hq => ?_)
    obtain ⟨hM2, hF2⟩ := hq
    refine aw_aload_n C dX7_breakOff_25 rfl ?_
    refine aw_get C f29 hM2.mo rfl dX7_breakOff_26 ?_
    refine aw_iconst C (v := 1) (by decide) dX7_breakOff_29 ?_
    refine aw_iconst C (v := (-1)) (by decide) dX7_breakOff_30 ?_
    refine aw_iastE C hM2.pa (by decide : (1 : Int32) = nI 1) ⟨by decide, by decide⟩ dX7_breakOff_31 ?_
    refine aw_re (P := fun μ1 => RM g K e0 S (((X.wth 0).wpa (upd (X.wth 0).pa 0 (-1))).wpa (upd ((X.wth 0).wpa (upd (X.wth 0).pa 0 (-1))).pa 1 (-1))) μ1 ∧ FrM K S.nA S.nQ μ μ1) ⟨hM2.setPa (upd ((X.wth 0).wpa (upd (X.wth 0).pa 0 (-1))).pa 1 (-1)), hF2.mpw (m0 (by decide))⟩ (fun μ3 hq => ?_)
    obtain ⟨hM3, hF3⟩ := hq
    refine aw_bipush C (v := 10) (by decide) dX7_breakOff_32 ?_
    refine aw_aload_n C dX7_breakOff_34 rfl ?_
    refine aw_get C f33 hM3.mo rfl dX7_breakOff_35 ?_
    refine aw_iconst C (v := 0) (by decide) dX7_breakOff_38 ?_
    refine aw_ialdE C hM3.po (by decide : (0 : Int32) = nI 0) ⟨by decide, by decide⟩ rfl dX7_breakOff_39 ?_
    refine aw_imul C dX7_breakOff_40 ?_
    refine aw_aload_n C dX7_breakOff_41 rfl ?_
    refine aw_get C f33 hM3.mo rfl dX7_breakOff_42 ?_
    refine aw_iconst C (v := 1) (by decide) dX7_breakOff_45 ?_
    refine aw_ialdE C hM3.po (by decide : (1 : Int32) = nI 1) ⟨by decide, by decide⟩ rfl dX7_breakOff_46 ?_
    refine aw_iadd C dX7_breakOff_47 ?_
    refine aw_iret C hQe ?_ (by omega) (by omega) dX7_breakOff_48
    have hc : brC S = 0 := by simp [brC, b6]
    rw [hc]
    exact ⟨⟨_, rfl, fun _ => by obtain ⟨-, -, h3, h4, -⟩ := hR.2.2 b6; show 10 * X.po 0 + X.po 1 = _; rw [h3, h4, Int32.mul_comm]⟩, ⟨((X.wth 0).wpa (upd (X.wth 0).pa 0 (-1))).wpa (upd ((X.wth 0).wpa (upd (X.wth 0).pa 0 (-1))).pa 1 (-1)), (show RM g K e0 (brS S) _ _ from hM3), ⟨hR.1, fun _ => rfl, fun q => absurd rfl q⟩, rfl⟩, hF3⟩
set_option maxRecDepth 100000 in
set_option maxHeartbeats 4000000 in
theorem k_X7_field (B : Base s0) {μ : mu} {K : Nat → Nat → Nat} {e0 : Nat} {S : SS} {X : XS} (hM : RM g K e0 S X μ) (hI : Iv S) {b : Nat} (hR : MR S X b) {x y z : Int32} : Ct l yX7_field wsX7_field (rmOf 4 1 4 180) s0 D (tyL g) [.ref (K 0 0), .int x, .int y, .int z] μ 1 4 (fun v9 μ' => (∃ r : Int32, v9 = some (.int r) ∧ (fiC S x y z = 0 → r = S.c 4)) ∧ PMx g K e0 S (fiS S x y z) (fiC S x y z) b μ μ') := by
  refine Ct.of (cc := cX7_field) (own := RX7) (maxL := 5) (ret := (some .int)) (by decide) rfl rfl (Nat.le_of_ble_eq_true rfl) ?_
  intro p e s m args below meth c Q C hE hnm hQe
  have in_RX7 : ∀ w ∈ u_ws RX7 TX7 22, w ∈ wsX7_field := by decide +kernel
  have f39 : FL wsX7_field RX7 39 9 "ArrowFieldModel" RX7 TX7 22 0 := ⟨in_RX7, rfl, by decide, by decide +kernel, Or.inl rfl⟩
  have f19 : FL wsX7_field RX7 19 9 "ArrowFieldModel" RX7 TX7 22 3 := ⟨in_RX7, rfl, by decide, by decide +kernel, Or.inl rfl⟩
  have f131 : FL wsX7_field RX7 131 9 "ArrowFieldModel" RX7 TX7 22 4 := ⟨in_RX7, rfl, by decide, by decide +kernel, Or.inl rfl⟩
  have f23 : FL wsX7_field RX7 23 9 "ArrowFieldModel" RX7 TX7 22 5 := ⟨in_RX7, rfl, by decide, by decide +kernel, Or.inl rfl⟩
  refine aw_aload_n C dX7_field_0 rfl ?_
  refine aw_iconst C (v := 0) (by decide) dX7_field_1 ?_
  refine aw_putE C f39 ftX7 (ty := .int) (by decide +kernel) rfl rfl hM.mo (Nat.le_of_ble_eq_true rfl) (fs' := [.int 0, .ref (K 1 0), .ref (K 2 0), .int (S.c 4), .int (S.c 5), .int (S.c 6), .int (S.c 9), .int (S.c 10), .int (S.c 8), .int (S.c 13), .int (S.c 7), .int (S.c 11), .int (S.c 14), .ref (K 3 0), .ref (K 4 0), .ref (K 5 0), .double X.ne, .int (nI X.T), .int X.il, .double X.h, .double X.v, .long X.sm]) rfl dX7_field_2 ?_
  refine aw_re (P := fun μ1 => RM g K e0 S (X.wth 0) μ1 ∧ FrM K S.nA S.nQ μ μ1) ⟨hM.setX (X.wth 0) rfl rfl rfl, (FrM.rf : FrM K S.nA S.nQ μ μ).mpw (m0 (by decide))⟩ (fun μ1 hq => ?_)
  obtain ⟨hM1, hF1⟩ := hq
  refine aw_iload_n C dX7_field_5 rfl ?_
  refine aw_bipush C (v := 10) (by decide) dX7_field_6 ?_
  refine aw_bipush C (v := 90) (by decide) dX7_field_8 ?_
  refine aw_callS (n := 3) C hE (k_X7_is (x := x) (lo := 10) (hi := 90) B) gX7_field_X7_is rfl ⟨rfl, rfl⟩ (by decide +kernel) ⟨by decide, by decide⟩ rfl rfl (Nat.le_of_ble_eq_true rfl) dX7_field_10 ⟨by decide, by decide⟩ (fun v μ' hp => ?_)
  obtain ⟨rfl, hm9⟩ := hp
  replace hm9 := hm9.symm
  subst hm9
  refine aw_st (st' := [.int (if btw x 10 90 = true then 1 else 0)]) rfl ?_
  by_cases b10 : btw x 10 90 = true
  · refine aw_eqi (y := 1) (if_pos b10) ?_
    refine aw_if_eq C (tgt := 37) dX7_field_13 (by decide) (fun c9 => absurd c9 (by decide)) (fun _ => ?_)
    refine aw_iload_n C dX7_field_16 rfl ?_
    refine aw_bipush C (v := (-16)) (by decide) dX7_field_17 ?_
    refine aw_bipush C (v := 16) (by decide) dX7_field_19 ?_
    refine aw_callS (n := 3) C hE (k_X7_is (x := y) (lo := (-16)) (hi := 16) B) gX7_field_X7_is rfl ⟨rfl, rfl⟩ (by decide +kernel) ⟨by decide, by decide⟩ rfl rfl (Nat.le_of_ble_eq_true rfl) dX7_field_21 ⟨by decide, by decide⟩ (fun v μ' hp => ?_)
    obtain ⟨rfl, hm9⟩ := hp
    replace hm9 := hm9.symm
    subst hm9
    refine aw_st (st' := [.int (if btw y (-16) 16 = true then 1 else 0)]) rfl ?_
    by_cases b21 : btw y (-16) 16 = true
    · refine aw_eqi (y := 1) (if_pos b21) ?_
      refine aw_if_eq C (tgt := 37) dX7_field_24 (by decide) (fun c9 => absurd c9 (by decide)) (fun _ => ?_)
      refine aw_iload_n C dX7_field_27 rfl ?_
      refine aw_iconst C (v := 1) (by decide) dX7_field_28 ?_
      refine aw_bipush C (v := 8) (by decide) dX7_field_29 ?_
      refine aw_callS (n := 3) C hE (k_X7_is (x := z) (lo := 1) (hi := 8) B) gX7_field_X7_is rfl ⟨rfl, rfl⟩ (by decide +kernel) ⟨by decide, by decide⟩ rfl rfl (Nat.le_of_ble_eq_true rfl) dX7_field_31 ⟨by decide, by decide⟩ (fun v μ' hp => ?_)
      obtain ⟨rfl, hm9⟩ := hp
      replace hm9 := hm9.symm
      subst hm9
      refine aw_st (st' := [.int (if btw z 1 8 = true then 1 else 0)]) rfl ?_
      by_cases b31 : btw z 1 8 = true
      · refine aw_eqi (y := 1) (if_pos b31) ?_
        refine aw_if_ne C (tgt := 43) dX7_field_34 (by decide) (fun _ => ?_) (fun c9 => absurd c9 (by decide))
        refine aw_aload_n C dX7_field_43 rfl ?_
        refine aw_callV (n := 0) C hE (ci := 9) (q := (RX7, TX7, 22)) (k_X7_stuck B hM1 hI) gX7_field_X7_stuck rfl ⟨rfl, rfl⟩ (by decide +kernel) ⟨by decide, by decide⟩ rfl rfl hM1.mo rfl (Nat.le_of_ble_eq_true rfl) dX7_field_44 ⟨by decide, by decide⟩ (fun v μ' hp => ?_)
        obtain ⟨rfl, hM2, hG2⟩ := hp
        have hF2 : FrM K S.nA S.nQ μ _ := hF1.tr hG2
        refine aw_st (st' := [.int (skF S)]) rfl ?_
        refine aw_re (P := fun μ1 => RM g K e0 S (X.wth 0) μ1 ∧ FrM K S.nA S.nQ μ μ1) ⟨hM2, hF2⟩ (fun μ3 hq => ?_)
        obtain ⟨hM3, hF3⟩ := hq
        refine aw_if_le C (tgt := 56) dX7_field_47 (by decide) (fun c_47 => ?_) (fun c_47 => ?_)
        · refine aw_aload_n C dX7_field_56 rfl ?_
          refine aw_get C f19 hM3.mo rfl dX7_field_57 ?_
          refine aw_istore C dX7_field_60 (by decide) ?_
          refine aw_aload_n C dX7_field_62 rfl ?_
          refine aw_iload_n C dX7_field_63 rfl ?_
          refine aw_putE C f19 ftX7 (ty := .int) (by decide +kernel) rfl rfl hM3.mo (Nat.le_of_ble_eq_true rfl) (fs' := [.int 0, .ref (K 1 0), .ref (K 2 0), .int x, .int (S.c 5), .int (S.c 6), .int (S.c 9), .int (S.c 10), .int (S.c 8), .int (S.c 13), .int (S.c 7), .int (S.c 11), .int (S.c 14), .ref (K 3 0), .ref (K 4 0), .ref (K 5 0), .double ((X.wth 0).ne), .int (nI (X.wth 0).T), .int ((X.wth 0).il), .double ((X.wth 0).h), .double ((X.wth 0).v), .long ((X.wth 0).sm)]) rfl dX7_field_64 ?_
          refine aw_re (P := fun μ1 => RM g K e0 (S.wc (upd S.c 4 x)) (X.wth 0) μ1 ∧ FrM K S.nA S.nQ μ μ1) ⟨hM3.setMo (upd S.c 4 x) (X.wth 0) rfl rfl rfl, hF3.mpw (m0 (by decide))⟩ (fun μ4 hq => ?_)
          obtain ⟨hM4, hF4⟩ := hq
          refine aw_aload_n C dX7_field_67 rfl ?_
          refine aw_iload_n C dX7_field_68 rfl ?_
          refine aw_putE C f131 ftX7 (ty := .int) (by decide +kernel) rfl rfl hM4.mo (Nat.le_of_ble_eq_true rfl) (fs' := [.int 0, .ref (K 1 0), .ref (K 2 0), .int ((S.wc (upd S.c 4 x)).c 4), .int y, .int ((S.wc (upd S.c 4 x)).c 6), .int ((S.wc (upd S.c 4 x)).c 9), .int ((S.wc (upd S.c 4 x)).c 10), .int ((S.wc (upd S.c 4 x)).c 8), .int ((S.wc (upd S.c 4 x)).c 13), .int ((S.wc (upd S.c 4 x)).c 7), .int ((S.wc (upd S.c 4 x)).c 11), .int ((S.wc (upd S.c 4 x)).c 14), .ref (K 3 0), .ref (K 4 0), .ref (K 5 0), .double ((X.wth 0).ne), .int (nI (X.wth 0).T), .int ((X.wth 0).il), .double ((X.wth 0).h), .double ((X.wth 0).v), .long ((X.wth 0).sm)]) rfl dX7_field_69 ?_
          refine aw_re (P := fun μ1 => RM g K e0 ((S.wc (upd S.c 4 x)).wc (upd (S.wc (upd S.c 4 x)).c 5 y)) (X.wth 0) μ1 ∧ FrM K S.nA S.nQ μ μ1) ⟨hM4.setMo (upd (S.wc (upd S.c 4 x)).c 5 y) (X.wth 0) rfl rfl rfl, hF4.mpw (m0 (by decide))⟩ (fun μ5 hq => ?_)
          obtain ⟨hM5, hF5⟩ := hq
          refine aw_aload_n C dX7_field_72 rfl ?_
          refine aw_iload_n C dX7_field_73 rfl ?_
          refine aw_putE C f23 ftX7 (ty := .int) (by decide +kernel) rfl rfl hM5.mo (Nat.le_of_ble_eq_true rfl) (fs' := [.int 0, .ref (K 1 0), .ref (K 2 0), .int (((S.wc (upd S.c 4 x)).wc (upd (S.wc (upd S.c 4 x)).c 5 y)).c 4), .int (((S.wc (upd S.c 4 x)).wc (upd (S.wc (upd S.c 4 x)).c 5 y)).c 5), .int z, .int (((S.wc (upd S.c 4 x)).wc (upd (S.wc (upd S.c 4 x)).c 5 y)).c 9), .int (((S.wc (upd S.c 4 x)).wc (upd (S.wc (upd S.c 4 x)).c 5 y)).c 10), .int (((S.wc (upd S.c 4 x)).wc (upd (S.wc (upd S.c 4 x)).c 5 y)).c 8), .int (((S.wc (upd S.c 4 x)).wc (upd (S.wc (upd S.c 4 x)).c 5 y)).c 13), .int (((S.wc (upd S.c 4 x)).wc (upd (S.wc (upd S.c 4 x)).c 5 y)).c 7), .int (((S.wc (upd S.c 4 x)).wc (upd (S.wc (upd S.c 4 x)).c 5 y)).c 11), .int (((S.wc (upd S.c 4 x)).wc (upd (S.wc (upd S.c 4 x)).c 5 y)).c 14), .ref (K 3 0), .ref (K 4 0), .ref (K 5 0), .double ((X.wth 0).ne), .int (nI (X.wth 0).T), .int ((X.wth 0).il), .double ((X.wth 0).h), .double ((X.wth 0).v), .long ((X.wth 0).sm)]) rfl dX7_field_74 ?_
          refine aw_re (P := fun μ1 => RM g K e0 (((S.wc (upd S.c 4 x)).wc (upd (S.wc (upd S.c 4 x)).c 5 y)).wc (upd ((S.wc (upd S.c 4 x)).wc (upd (S.wc (upd S.c 4 x)).c 5 y)).c 6 z)) (X.wth 0) μ1 ∧ FrM K S.nA S.nQ μ μ1) ⟨hM5.setMo (upd ((S.wc (upd S.c 4 x)).wc (upd (S.wc (upd S.c 4 x)).c 5 y)).c 6 z) (X.wth 0) rfl rfl rfl, hF5.mpw (m0 (by decide))⟩ (fun μ6 hq => ?_)
          obtain ⟨hM6, hF6⟩ := hq
          refine aw_iload C dX7_field_77 rfl ?_
          refine aw_iret C hQe ?_ (by omega) (by omega) dX7_field_79
          have hc : fiC S x y z = 0 := by simp [fiC, b10, b21, b31, c_47]
          rw [hc]
          exact ⟨⟨_, rfl, fun _ => rfl⟩, ⟨X.wth 0, hM6, hR, rfl⟩, hF6⟩
        · refine aw_aload_n C dX7_field_50 rfl ?_
          refine aw_iconst C (v := 2) (by decide) dX7_field_51 ?_
          refine aw_callV (n := 1) C hE (ci := 9) (q := (RX7, TX7, 22)) (k_X7_refuse (x := 2) B hM3) gX7_field_X7_refuse rfl ⟨rfl, rfl⟩ (by decide +kernel) ⟨by decide, by decide⟩ rfl rfl hM3.mo rfl (Nat.le_of_ble_eq_true rfl) dX7_field_52 ⟨by decide, by decide⟩ (fun v μ' hp => ?_)
          obtain ⟨rfl, hM4, hG4⟩ := hp
          have hF4 : FrM K S.nA S.nQ μ _ := hF3.tr hG4
          refine aw_st (st' := [.int 0]) rfl ?_
          refine aw_iret C hQe ?_ (by omega) (by omega) dX7_field_55
          have hc : fiC S x y z = 2 := by simp [fiC, b10, b21, b31, c_47]
          rw [hc]
          exact ⟨⟨_, rfl, fun q => absurd q (by decide)⟩, ⟨(X.wth 0).wth 2, hM4, hR, rfl⟩, hF4⟩
      · refine aw_eqi (y := 0) (if_neg b31) ?_
        refine aw_if_ne C (tgt := 43) dX7_field_34 (by decide) (fun c9 => absurd (by decide) c9) (fun _ => ?_)
        refine aw_aload_n C dX7_field_37 rfl ?_
        refine aw_iconst C (v := 1) (by decide) dX7_field_38 ?_
        refine aw_callV (n := 1) C hE (ci := 9) (q := (RX7, TX7, 22)) (k_X7_refuse (x := 1) B hM1) gX7_field_X7_refuse rfl ⟨rfl, rfl⟩ (by decide +kernel) ⟨by decide, by decide⟩ rfl rfl hM1.mo rfl (Nat.le_of_ble_eq_true rfl) dX7_field_39 ⟨by decide, by decide⟩ (fun v μ' hp => ?_)
        obtain ⟨rfl, hM2, hG2⟩ := hp
        have hF2 : FrM K S.nA S.nQ μ _ := hF1.tr hG2
        refine aw_st (st' := [.int 0]) rfl ?_
        refine aw_iret C hQe ?_ (by omega) (by omega) dX7_field_42
        have hc : fiC S x y z = 1 := by simp [fiC, b10, b21, b31]
        rw [hc]
        exact ⟨⟨_, rfl, fun q => absurd q (by decide)⟩, ⟨(X.wth 0).wth 1, hM2, hR, rfl⟩, hF2⟩
    · refine aw_eqi (y := 0) (if_neg b21) ?_
      refine aw_if_eq C (tgt := 37) dX7_field_24 (by decide) (fun _ => ?_) (fun c9 => absurd (by decide) c9)
      refine aw_aload_n C dX7_field_37 rfl ?_
      refine aw_iconst C (v := 1) (by decide) dX7_field_38 ?_
      refine aw_callV (n := 1) C hE (ci := 9) (q := (RX7, TX7, 22)) (k_X7_refuse (x := 1) B hM1) gX7_field_X7_refuse rfl ⟨rfl, rfl⟩ (by decide +kernel) ⟨by decide, by decide⟩ rfl rfl hM1.mo rfl (Nat.le_of_ble_eq_true rfl) dX7_field_39 ⟨by decide, by decide⟩ (fun v μ' hp => ?_)
      obtain ⟨rfl, hM2, hG2⟩ := hp
      have hF2 : FrM K S.nA S.nQ μ _ := hF1.tr hG2
      refine aw_st (st' := [.int 0]) rfl ?_
      refine aw_iret C hQe ?_ (by omega) (by omega) dX7_field_42
      have hc : fiC S x y z = 1 := by simp [fiC, b10, b21]
      rw [hc]
      exact ⟨⟨_, rfl, fun q => absurd q (by decide)⟩, ⟨(X.wth 0).wth 1, hM2, hR, rfl⟩, hF2⟩
  · refine aw_eqi (y := 0) (if_neg b10) ?_
    refine aw_if_eq C (tgt := 37) dX7_field_13 (by decide) (fun _ => ?_) (fun c9 => absurd (by decide) c9)
    refine aw_aload_n C dX7_field_37 rfl ?_
    refine aw_iconst C (v := 1) (by decide) dX7_field_38 ?_
    refine aw_callV (n := 1) C hE (ci := 9) (q := (RX7, TX7, 22)) (k_X7_refuse (x := 1) B hM1) gX7_field_X7_refuse rfl ⟨rfl, rfl⟩ (by decide +kernel) ⟨by decide, by decide⟩ rfl rfl hM1.mo rfl (Nat.le_of_ble_eq_true rfl) dX7_field_39 ⟨by decide, by decide⟩ (fun v μ' hp => ?_)
    obtain ⟨rfl, hM2, hG2⟩ := hp
    have hF2 : FrM K S.nA S.nQ μ _ := hF1.tr hG2
    refine aw_st (st' := [.int 0]) rfl ?_
    refine aw_iret C hQe ?_ (by omega) (by omega) dX7_field_42
    have hc : fiC S x y z = 1 := by simp [fiC, b10]
    rw [hc]
    exact ⟨⟨_, rfl, fun q => absurd q (by decide)⟩, ⟨(X.wth 0).wth 1, hM2, hR, rfl⟩, hF2⟩
set_option maxRecDepth 100000 in
set_option maxHeartbeats 4000000 in
theorem k_X7_string (B : Base s0) {μ : mu} {K : Nat → Nat → Nat} {e0 : Nat} {S : SS} {X : XS} (hM : RM g K e0 S X μ) (hI : Iv S) {b : Nat} (hR : MR S X b) {x : Int32} : Ct l yX7_string wsX7_string (rmOf 4 0 0 170) s0 D (tyL g) [.ref (K 0 0), .int x] μ 0 0 (fun v9 μ' => (∃ r : UInt64, v9 = some (.double r) ∧ (stC S x = 0 → r = FP.f2d (S.cr (ix x)))) ∧ PMx g K e0 S (stS S (ix x)) (stC S x) b μ μ') := by
  refine Ct.of (cc := cX7_string) (own := RX7) (maxL := 4) (ret := (some .double)) (by decide) rfl rfl (Nat.le_of_ble_eq_true rfl) ?_
  intro p e s m args below meth c Q C hE hnm hQe
  have in_RX7 : ∀ w ∈ u_ws RX7 TX7 22, w ∈ wsX7_string := by decide +kernel
  have in_RX5 : ∀ w ∈ u_ws RX5 TX5 12, w ∈ wsX7_string := by decide +kernel
  have f39 : FL wsX7_string RX7 39 9 "ArrowFieldModel" RX7 TX7 22 0 := ⟨in_RX7, rfl, by decide, by decide +kernel, Or.inl rfl⟩
  have f10 : FL wsX7_string RX7 10 9 "ArrowFieldModel" RX7 TX7 22 1 := ⟨in_RX7, rfl, by decide, by decide +kernel, Or.inl rfl⟩
  have f103 : FN s0 wsX7_string RX7 103 7 "ArrowFieldModel$Archer" RX5 TX5 12 4 "ArrowFieldModel" := ⟨in_RX5, rfl, by decide, B.fnRX7_103, rfl⟩
  refine aw_aload_n C dX7_string_0 rfl ?_
  refine aw_aload_n C dX7_string_1 rfl ?_
  refine aw_iload_n C dX7_string_2 rfl ?_
  refine aw_callV (n := 1) C hE (ci := 9) (q := (RX7, TX7, 22)) (k_X7_isArcher (x := x) B hM hI) gX7_string_X7_isArcher rfl ⟨rfl, rfl⟩ (by decide +kernel) ⟨by decide, by decide⟩ rfl rfl hM.mo rfl (Nat.le_of_ble_eq_true rfl) dX7_string_3 ⟨by decide, by decide⟩ (fun v μ' hp => ?_)
  obtain ⟨rfl, hm9⟩ := hp
  replace hm9 := hm9.symm
  subst hm9
  refine aw_st (st' := [.int (if inb x S.nA = true then 1 else 0), .ref (K 0 0)]) rfl ?_
  by_cases b3 : inb x S.nA = true
  · refine aw_eqi (y := 1) (if_pos b3) ?_
    refine aw_if_eq C (tgt := 13) dX7_string_6 (by decide) (fun c9 => absurd c9 (by decide)) (fun _ => ?_)
    refine aw_iconst C (v := 0) (by decide) dX7_string_9 ?_
    refine aw_goto C (tgt := 14) dX7_string_10 (by decide) ?_
    refine aw_putE C f39 ftX7 (ty := .int) (by decide +kernel) rfl rfl hM.mo (Nat.le_of_ble_eq_true rfl) (fs' := [.int 0, .ref (K 1 0), .ref (K 2 0), .int (S.c 4), .int (S.c 5), .int (S.c 6), .int (S.c 9), .int (S.c 10), .int (S.c 8), .int (S.c 13), .int (S.c 7), .int (S.c 11), .int (S.c 14), .ref (K 3 0), .ref (K 4 0), .ref (K 5 0), .double X.ne, .int (nI X.T), .int X.il, .double X.h, .double X.v, .long X.sm]) rfl dX7_string_14 ?_
    refine aw_re (P := fun μ1 => RM g K e0 S (X.wth 0) μ1 ∧ FrM K S.nA S.nQ μ μ1) ⟨hM.setX (X.wth 0) rfl rfl rfl, (FrM.rf : FrM K S.nA S.nQ μ μ).mpw (m0 (by decide))⟩ (fun μ1 hq => ?_)
    obtain ⟨hM1, hF1⟩ := hq
    refine aw_aload_n C dX7_string_17 rfl ?_
    refine aw_get C f39 hM1.mo rfl dX7_string_18 ?_
    refine aw_eqi (y := 0) rfl ?_
    refine aw_if_le C (tgt := 26) dX7_string_21 (by decide) (fun _ => ?_) (fun c9 => absurd (by decide) c9)
    obtain ⟨j, hj, rfl⟩ := inb_of b3 (by have := hI.A6; omega)
    refine aw_aload_n C dX7_string_26 rfl ?_
    refine aw_get C f10 hM1.mo rfl dX7_string_27 ?_
    refine aw_iload_n C dX7_string_30 rfl ?_
    refine aw_callV (n := 1) C hE (ci := 1) (q := (RJx4a65c, TJx4a65c, 3)) (k_getA B hM1 hI hj) gX7_string_Jx4a65c_get_915e3 rfl ⟨rfl, rfl⟩ (by decide +kernel) ⟨by decide, by decide⟩ rfl rfl hM1.aL rfl (Nat.le_of_ble_eq_true rfl) dX7_string_31 ⟨by decide, by decide⟩ (fun v μ' hp => ?_)
    obtain ⟨rfl, hm9⟩ := hp
    replace hm9 := hm9.symm
    subst hm9
    refine aw_st (st' := [.ref (K 8 j)]) rfl ?_
    refine aw_cast C (ci := 7) (by decide +kernel) (va_Nw.warmC hE.1 B.caXa) rfl (hM1.xa hj) dX7_string_34 ?_
    refine aw_getN C hE f103 (hM1.xa hj) rfl dX7_string_37 ?_
    refine aw_f2d C (crf_n (hI.2.2.2.1 j hj).2.1) dX7_string_40 ?_
    refine aw_dstore_n C dX7_string_41 (by decide) ?_
    refine aw_aload_n C dX7_string_42 rfl ?_
    refine aw_get C f10 hM1.mo rfl dX7_string_43 ?_
    refine aw_iload_n C dX7_string_46 rfl ?_
    refine aw_callV (n := 1) C hE (ci := 1) (q := (RJx4a65c, TJx4a65c, 3)) (k_getA B hM1 hI hj) gX7_string_Jx4a65c_get_915e3 rfl ⟨rfl, rfl⟩ (by decide +kernel) ⟨by decide, by decide⟩ rfl rfl hM1.aL rfl (Nat.le_of_ble_eq_true rfl) dX7_string_47 ⟨by decide, by decide⟩ (fun v μ' hp => ?_)
    obtain ⟨rfl, hm9⟩ := hp
    replace hm9 := hm9.symm
    subst hm9
    refine aw_st (st' := [.ref (K 8 j)]) rfl ?_
    refine aw_cast C (ci := 7) (by decide +kernel) (va_Nw.warmC hE.1 B.caXa) rfl (hM1.xa hj) dX7_string_50 ?_
    refine aw_fconst0 C dX7_string_53 ?_
    refine aw_putNE C hE f103 ftX5 (ty := .float) (by decide +kernel) rfl rfl (hM1.xa hj) (Nat.le_of_ble_eq_true rfl) (fs' := [.int (S.A j 0), .int (S.A j 1), .int (S.A j 2), .int (S.A j 3), .float FP.fconst0, .int (S.A j 5), .int (S.A j 6), .int (S.A j 7), .int (S.A j 8), .int (S.A j 9), .int (S.A j 10), .int (S.A j 11)]) rfl dX7_string_54 ?_
    refine aw_re (P := fun μ1 => RM g K e0 (S.wcr (fu S.cr j FP.fconst0)) (X.wth 0) μ1 ∧ FrM K S.nA S.nQ μ μ1) ⟨hM1.setXc hj FP.fconst0, hF1.mpw (m8 hj)⟩ (fun μ2 hq => ?_)
    obtain ⟨hM2, hF2⟩ := hq
    refine aw_dload_n C dX7_string_57 rfl ?_
    refine aw_dret C hQe ?_ (by omega) (by omega) dX7_string_58
    have hc : stC S (nI j) = 0 := by simp [stC, b3]
    rw [hc]
    rw [show ix (nI j) = j from ix_nI hj (by have := hI.A6; omega)]
    exact ⟨⟨_, rfl, fun _ => rfl⟩, ⟨X.wth 0, hM2, hR, rfl⟩, hF2⟩
  · refine aw_eqi (y := 0) (if_neg b3) ?_
    refine aw_if_eq C (tgt := 13) dX7_string_6 (by decide) (fun _ => ?_) (fun c9 => absurd (by decide) c9)
    refine aw_iconst C (v := 1) (by decide) dX7_string_13 ?_
    refine aw_putE C f39 ftX7 (ty := .int) (by decide +kernel) rfl rfl hM.mo (Nat.le_of_ble_eq_true rfl) (fs' := [.int 1, .ref (K 1 0), .ref (K 2 0), .int (S.c 4), .int (S.c 5), .int (S.c 6), .int (S.c 9), .int (S.c 10), .int (S.c 8), .int (S.c 13), .int (S.c 7), .int (S.c 11), .int (S.c 14), .ref (K 3 0), .ref (K 4 0), .ref (K 5 0), .double X.ne, .int (nI X.T), .int X.il, .double X.h, .double X.v, .long X.sm]) rfl dX7_string_14 ?_
    refine aw_re (P := fun μ1 => RM g K e0 S (X.wth 1) μ1 ∧ FrM K S.nA S.nQ μ μ1) ⟨hM.setX (X.wth 1) rfl rfl rfl, (FrM.rf : FrM K S.nA S.nQ μ μ).mpw (m0 (by decide))⟩ (fun μ1 hq => ?_)
    obtain ⟨hM1, hF1⟩ := hq
    refine aw_aload_n C dX7_string_17 rfl ?_
    refine aw_get C f39 hM1.mo rfl dX7_string_18 ?_
    refine aw_eqi (y := 1) rfl ?_
    refine aw_if_le C (tgt := 26) dX7_string_21 (by decide) (fun c9 => absurd c9 (by decide)) (fun _ => ?_)
    refine aw_dconst0 C dX7_string_24 ?_
    refine aw_dret C hQe ?_ (by omega) (by omega) dX7_string_25
    have hc : stC S x = 1 := by simp [stC, b3]
    rw [hc]
    exact ⟨⟨_, rfl, fun q => absurd q (by decide)⟩, ⟨X.wth 1, hM1, hR, rfl⟩, hF1⟩
end KM2
