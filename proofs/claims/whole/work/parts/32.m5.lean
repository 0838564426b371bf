/-! ===== ArrowFieldModel: the shot ===== -/
theorem mk_key (x : UInt64) : dk (x &&& 0x7fffffffffffffff) = (ab x : Int) := (FP.Core.mask_key x).trans (ab_nat x).symm
theorem Eb.mk {K : Nat} {x : UInt64} (h : Eb K x) : Eb K (x &&& 0x7fffffffffffffff) := by
  have h1 : (x &&& 0x7fffffffffffffff).toNat = x.toNat % 2 ^ 63 := by
    rw [UInt64.toNat_and]
    exact Nat.and_two_pow_sub_one_eq_mod x.toNat 63
  unfold Eb
  rw [h1, Nat.mod_mod]
  exact h
theorem mk_near {x : UInt64} (h : Eb 1420 x) : 0 ≤ Op.cmpValue (FP.dcmp (x &&& 0x7fffffffffffffff) d0156) .l ↔ ¬ ab x < ab d0156 := by
  rw [kv_ge0 (h.mk.nn (by decide)) d0156_nn, mk_key, d0156_key]
  omega
theorem mk_nearL {x : UInt64} (h : Eb 1420 x) : Op.cmpValue (FP.dcmp (x &&& 0x7fffffffffffffff) d0156) .l < 0 ↔ ab x < ab d0156 := by
  rw [kv_lt0 (h.mk.nn (by decide)) d0156_nn, mk_key, d0156_key]
  omega
theorem RM.setXa2 {g : Nat → ClassId} {K : Nat → Nat → Nat} {e0 : Nat} {S : SS} {X : XS} {μ : mu} (h : RM g K e0 S X μ) {i : Nat} (hi : i < S.nA) {μ' : mu} {x : Nat → Int32} {y : UInt32} (e : μ' = mp μ (K 8 i) (eXa x y)) : RM g K e0 ((S.wA (fu S.A i x)).wcr (fu S.cr i y)) X μ' := by
  rw [e]; exact h.setXa hi x y
section KM5
variable {l : Launch} {s0 : State} {D : va_G} {g : Nat → ClassId}
set_option maxRecDepth 100000 in
set_option maxHeartbeats 4000000 in
theorem k_X7_split (B : Base s0) {μ : mu} {K : Nat → Nat → Nat} {e0 : Nat} {S : SS} {X : XS} (hM : RM g K e0 S X μ) (hI : Iv S) (hB : ∀ j k, Eb 1412 (S.H j k) ∧ Eb 1412 (S.V j k)) (bh : Eb 1412 X.h) (bv : Eb 1412 X.v) : Ct l yX7_split wsX7_split (rmOf 3 1 4 120) s0 D (tyL g) [.ref (K 0 0)] μ 1 4 (fun v9 μ' => v9 = none ∧ RM g K e0 (spS S X.h X.v) X μ' ∧ FrM K S.nA S.nQ μ μ') := by
  refine Ct.of (cc := cX7_split) (own := RX7) (maxL := 4) (ret := none) (by decide) rfl rfl (Nat.le_of_ble_eq_true rfl) ?_
  intro p e s m args below meth c Q C hE hnm hQe
  have in_RX7 : ∀ w ∈ u_ws RX7 TX7 22, w ∈ wsX7_split := by decide +kernel
  have in_RX6 : ∀ w ∈ u_ws RX6 TX6 5, w ∈ wsX7_split := by decide +kernel
  have f16 : FL wsX7_split RX7 16 9 "ArrowFieldModel" RX7 TX7 22 2 := ⟨in_RX7, rfl, by decide, by decide +kernel, Or.inl rfl⟩
  have f163 : FN s0 wsX7_split RX7 163 8 "ArrowFieldModel$Quiver" RX6 TX6 5 2 "ArrowFieldModel" := ⟨in_RX6, rfl, by decide, B.fnRX7_163, rfl⟩
  have f148 : FL wsX7_split RX7 148 9 "ArrowFieldModel" RX7 TX7 22 19 := ⟨in_RX7, rfl, by decide, by decide +kernel, Or.inl rfl⟩
  have f166 : FN s0 wsX7_split RX7 166 8 "ArrowFieldModel$Quiver" RX6 TX6 5 3 "ArrowFieldModel" := ⟨in_RX6, rfl, by decide, B.fnRX7_166, rfl⟩
  have k175 : Cond.constantDouble RX7 175 (4580160821035794432) ∈ wsX7_split := by decide +kernel
  have f152 : FL wsX7_split RX7 152 9 "ArrowFieldModel" RX7 TX7 22 20 := ⟨in_RX7, rfl, by decide, by decide +kernel, Or.inl rfl⟩
  have f177 : FN s0 wsX7_split RX7 177 8 "ArrowFieldModel$Quiver" RX6 TX6 5 4 "ArrowFieldModel" := ⟨in_RX6, rfl, by decide, B.fnRX7_177, rfl⟩
  have f179 : FL wsX7_split RX7 179 9 "ArrowFieldModel" RX7 TX7 22 7 := ⟨in_RX7, rfl, by decide, by decide +kernel, Or.inl rfl⟩
  have hQ6 := hI.Q6
  refine aw_aload_n C dX7_split_0 rfl ?_
  refine aw_get C f16 hM.mo rfl dX7_split_1 ?_
  refine aw_callV (n := 0) C hE (ci := 1) (q := (RJx4a65c, TJx4a65c, 3)) (k_Jx4a65c_iterator_32c93 B hM.qL) gX7_split_Jx4a65c_iterator_32c93 rfl ⟨rfl, rfl⟩ (by decide +kernel) ⟨by decide, by decide⟩ rfl rfl hM.qL rfl (Nat.le_of_ble_eq_true rfl) dX7_split_4 ⟨by decide, by decide⟩ (fun v μ' hp => ?_)
  obtain ⟨o, rfl, fo, hm9⟩ := hp
  replace hm9 := hm9.symm
  subst hm9
  refine aw_st (st' := [.ref o]) rfl ?_
  refine aw_re (P := fun μ1 => RM g K e0 S X μ1 ∧ FrM K S.nA S.nQ μ μ1 ∧ μ1 o = some (.inr (0, [.int 0, .int (-1), .int (nI S.nQ), .ref (K 2 0)]))) ⟨hM.nw fo, FrM.rf.nw fo, mp_s⟩ (fun μ1 hq => ?_)
  obtain ⟨hM1, hF1, hit⟩ := hq
  refine aw_astore_n C dX7_split_7 (by decide) ?_
  refine aw_lv (lv' := [(0, .ref (K 0 0)), (1, .ref o)]) ⟨rfl, rfl, trivial⟩ ?_
  have loop8 : ∀ (n : Nat) (i : Nat) (la : Int32) (μk : mu), S.nQ - i = n → i ≤ S.nQ → fsI (fun i => decide (¬ fstN (hitP X.h X.v (S.F i) (S.H i) (S.V i)) 12 0 = -1)) (S.nQ - i) i = spQ S X.h X.v → RM g K e0 S X μk → FrM K S.nA S.nQ μ μk → μk o = some (eIt (nI i) la (nI S.nQ) (K 2 0)) → Aw p l e (rmOf 3 1 4 120) s m args below meth c Q s0.heap.size D 4 μk (0 + 1) (0 + 4) 8 [(0, .ref (K 0 0)), (1, .ref o)] [] := by
    intro n
    induction n using Nat.strongRecOn with
    | _ n ih =>
      intro i la μk hn hk hs0 hMl hFl hit
      refine aw_aload_n C dX7_split_8 rfl ?_
      refine aw_callF (n := 0) C hE (ci := 0) (q := (RJx35411, TJx35411, 4)) (k_Jx35411_hasNext_aae02 B hMl.qL hit) gX7_split_Jx35411_hasNext_aae02_f111Jx35411 (va_Fw.moved (by decide) hE.1.alike B.fhasNext) rfl ⟨rfl, rfl⟩ (by decide +kernel) ⟨by decide, by decide⟩ rfl rfl hit rfl (Nat.le_of_ble_eq_true rfl) dX7_split_9 ⟨by decide, by decide⟩ (fun v μ' hp => ?_)
      obtain ⟨rfl, hm9⟩ := hp
      replace hm9 := hm9.symm
      subst hm9
      refine aw_st (st' := [.int (if nI i = nI S.nQ then 0 else 1)]) rfl ?_
      by_cases hs : nI i = nI S.nQ
      · refine aw_eqi (y := 0) (if_pos hs) ?_
        refine aw_if_eq C (tgt := 117) dX7_split_14 (by decide) (fun _ => ?_) (fun c9 => absurd (by decide) c9)
        refine aw_vret C hQe ?_ (by omega) (by omega) dX7_split_117
        have e8 : i = S.nQ := (nI_eq (by omega) (by omega)).mp hs
        have e3 : spS S X.h X.v = S := by unfold spS; rw [if_neg (by rw [← hs0, e8, Nat.sub_self]; exact Nat.lt_irrefl _)]
        rw [e3]
        exact ⟨rfl, hMl, (FrM.rf : FrM K S.nA S.nQ μ μ).tr hFl⟩
      · refine aw_eqi (y := 1) (if_neg hs) ?_
        refine aw_if_eq C (tgt := 117) dX7_split_14 (by decide) (fun c9 => absurd c9 (by decide)) (fun _ => ?_)
        refine aw_aload_n C dX7_split_17 rfl ?_
        have hi : i < S.nQ := by rcases Nat.lt_or_eq_of_le hk with q | q; exact q; exact absurd (congrArg nI q) hs
        refine aw_callF (n := 0) C hE (ci := 0) (q := (RJx35411, TJx35411, 4)) (k_nextQ B hMl hit hi hI.Q6) gX7_split_Jx35411_next_0502b_f116Jx35411 (va_Fw.moved (by decide) hE.1.alike B.fnext) rfl ⟨rfl, rfl⟩ (by decide +kernel) ⟨by decide, by decide⟩ rfl rfl hit rfl (Nat.le_of_ble_eq_true rfl) dX7_split_18 ⟨by decide, by decide⟩ (fun v μ' hp => ?_)
        obtain ⟨rfl, hm9⟩ := hp
        replace hm9 := hm9.symm
        subst hm9
        refine aw_st (st' := [.ref (K 9 i)]) rfl ?_
        refine aw_re (P := fun μ1 => RM g K e0 S X μ1 ∧ FrM K S.nA S.nQ μ μ1 ∧ μ1 o = some (.inr (0, [.int (nI (i + 1)), .int (nI i), .int (nI S.nQ), .ref (K 2 0)]))) ⟨hMl.it hit _, hFl.nwo fo, mp_s⟩ (fun μ2 hq => ?_)
        obtain ⟨hM2, hF2, hit2⟩ := hq
        refine aw_cast C (ci := 8) (by decide +kernel) (va_Nw.warmC hE.1 B.caXq) rfl (hM2.xq hi) dX7_split_23 ?_
        refine aw_astore_n C dX7_split_26 (by decide) ?_
        refine aw_iconst C (v := 0) (by decide) dX7_split_27 ?_
        refine aw_istore_n C dX7_split_28 (by decide) ?_
        refine aw_lv (lv' := [(0, .ref (K 0 0)), (1, .ref o), (2, .ref (K 9 i)), (3, .int 0)]) ⟨rfl, rfl, rfl, rfl, trivial⟩ ?_
        have loop29 : ∀ (n2 : Nat) (k : Nat) (xk : Int32), 12 - k = n2 → xk = nI k → k ≤ 12 → fstN (hitP X.h X.v (S.F i) (S.H i) (S.V i)) (12 - k) k = fstN (hitP X.h X.v (S.F i) (S.H i) (S.V i)) 12 0 → Aw p l e (rmOf 3 1 4 120) s m args below meth c Q s0.heap.size D 4 μ2 (0 + 1) (0 + 4) 29 [(0, .ref (K 0 0)), (1, .ref o), (2, .ref (K 9 i)), (3, .int xk)] [] := by
          intro n2
          induction n2 using Nat.strongRecOn with
          | _ n2 ih2 =>
            intro k xk hn2 hx hk2 hs2
            refine aw_iload_n C dX7_split_29 rfl ?_
            refine aw_bipush C (v := 12) (by decide) dX7_split_30 ?_
            refine aw_icmp_ge C (tgt := 114) dX7_split_32 (by decide) (fun c_32 => ?_) (fun c_32 => ?_)
            · refine aw_goto C (tgt := 8) dX7_split_114 (by decide) ?_
              have e8 : k = 12 := by have := ge_of (n := 12) hx (by decide) (by omega) c_32; omega
              have hm1 : fstN (hitP X.h X.v (S.F i) (S.H i) (S.V i)) 12 0 = -1 := by rw [← hs2, e8]; rfl
              have hs9 : fsI (fun i => decide (¬ fstN (hitP X.h X.v (S.F i) (S.H i) (S.V i)) 12 0 = -1)) (S.nQ - (i + 1)) (i + 1) = spQ S X.h X.v := by rw [← hs0, show S.nQ - i = (S.nQ - (i + 1)) + 1 by omega]; exact (if_neg (fun q => absurd hm1 (of_decide_eq_true q))).symm
              refine aw_lv (lv' := [(0, .ref (K 0 0)), (1, .ref o)]) ⟨rfl, rfl, trivial⟩ ?_
              exact ih _ (by omega) (i + 1) (nI i) _ rfl hi hs9 hM2 hF2 hit2
            · have hk3 : k < 12 := lt_of (n := 12) hx (by decide) (by omega) c_32
              subst hx
              have n1 := (bh.sub (hB i k).1 (by decide) : Eb 1414 (FP.dsub X.h (S.H i k))).up (L := 1420) (by decide)
              have n2 := (bv.sub (hB i k).2 (by decide) : Eb 1414 (FP.dsub X.v (S.V i k))).up (L := 1420) (by decide)
              refine aw_aload_n C dX7_split_35 rfl ?_
              refine aw_getN C hE f163 (hM2.xq hi) rfl dX7_split_36 ?_
              refine aw_iload_n C dX7_split_39 rfl ?_
              refine aw_ialdE C (hM2.wh hi) rfl ⟨hk3, by decide⟩ rfl dX7_split_40 ?_
              refine aw_iconst C (v := 1) (by decide) dX7_split_41 ?_
              refine aw_icmp_ne C (tgt := 108) dX7_split_42 (by decide) (fun c_42 => ?_) (fun c_42 => ?_)
              · refine aw_iinc C dX7_split_108 rfl (by decide) ?_
                refine aw_goto C (tgt := 29) dX7_split_111 (by decide) ?_
                have hs8 : fstN (hitP X.h X.v (S.F i) (S.H i) (S.V i)) (12 - (k + 1)) (k + 1) = fstN (hitP X.h X.v (S.F i) (S.H i) (S.V i)) 12 0 := by rw [← hs2, show 12 - k = (12 - (k + 1)) + 1 by omega, fstN_n (hitP_n (Or.inl c_42))]
                refine aw_lv (lv' := [(0, .ref (K 0 0)), (1, .ref o), (2, .ref (K 9 i)), (3, .int (nI k + Int32.ofInt 1))]) ⟨rfl, rfl, rfl, rfl, trivial⟩ ?_
                exact ih2 _ (by omega) (k + 1) (nI k + Int32.ofInt 1) rfl (nI_inc k) (by omega) hs8
              · refine aw_aload_n C dX7_split_45 rfl ?_
                refine aw_get C f148 hM2.mo rfl dX7_split_46 ?_
                refine aw_aload_n C dX7_split_49 rfl ?_
                refine aw_getN C hE f166 (hM2.xq hi) rfl dX7_split_50 ?_
                refine aw_iload_n C dX7_split_53 rfl ?_
                refine aw_daldE C (hM2.hh hi) rfl ⟨hk3, by decide⟩ rfl dX7_split_54 ?_
                refine aw_dsub C (n1.n (by decide)) dX7_split_55 ?_
                refine aw_callS (n := 1) C hE (k_J9_abs_294c1 (x := FP.dsub X.h ((S.H i) k)) B (n1.n (by decide))) gX7_split_J9_abs_294c1 rfl ⟨rfl, rfl⟩ (by decide +kernel) ⟨by decide, by decide⟩ rfl rfl (Nat.le_of_ble_eq_true rfl) dX7_split_56 ⟨by decide, by decide⟩ (fun v μ' hp => ?_)
                obtain ⟨rfl, hm9⟩ := hp
                replace hm9 := hm9.symm
                subst hm9
                refine aw_st (st' := [.double ((FP.dsub X.h ((S.H i) k)) &&& 0x7fffffffffffffff)]) rfl ?_
                refine aw_ldc2d C k175 dX7_split_59 ?_
                refine aw_dcmp C dX7_split_62 ?_
                refine aw_if_ge C (tgt := 108) dX7_split_63 (by decide) (fun c_63 => ?_) (fun c_63 => ?_)
                · refine aw_iinc C dX7_split_108 rfl (by decide) ?_
                  refine aw_goto C (tgt := 29) dX7_split_111 (by decide) ?_
                  have hs8 : fstN (hitP X.h X.v (S.F i) (S.H i) (S.V i)) (12 - (k + 1)) (k + 1) = fstN (hitP X.h X.v (S.F i) (S.H i) (S.V i)) 12 0 := by rw [← hs2, show 12 - k = (12 - (k + 1)) + 1 by omega, fstN_n (hitP_n (Or.inr (Or.inl ((mk_near n1).mp c_63))))]
                  refine aw_lv (lv' := [(0, .ref (K 0 0)), (1, .ref o), (2, .ref (K 9 i)), (3, .int (nI k + Int32.ofInt 1))]) ⟨rfl, rfl, rfl, rfl, trivial⟩ ?_
                  exact ih2 _ (by omega) (k + 1) (nI k + Int32.ofInt 1) rfl (nI_inc k) (by omega) hs8
                · refine aw_aload_n C dX7_split_66 rfl ?_
                  refine aw_get C f152 hM2.mo rfl dX7_split_67 ?_
                  refine aw_aload_n C dX7_split_70 rfl ?_
                  refine aw_getN C hE f177 (hM2.xq hi) rfl dX7_split_71 ?_
                  refine aw_iload_n C dX7_split_74 rfl ?_
                  refine aw_daldE C (hM2.vv hi) rfl ⟨hk3, by decide⟩ rfl dX7_split_75 ?_
                  refine aw_dsub C (n2.n (by decide)) dX7_split_76 ?_
                  refine aw_callS (n := 1) C hE (k_J9_abs_294c1 (x := FP.dsub X.v ((S.V i) k)) B (n2.n (by decide))) gX7_split_J9_abs_294c1 rfl ⟨rfl, rfl⟩ (by decide +kernel) ⟨by decide, by decide⟩ rfl rfl (Nat.le_of_ble_eq_true rfl) dX7_split_77 ⟨by decide, by decide⟩ (fun v μ' hp => ?_)
                  obtain ⟨rfl, hm9⟩ := hp
                  replace hm9 := hm9.symm
                  subst hm9
                  refine aw_st (st' := [.double ((FP.dsub X.v ((S.V i) k)) &&& 0x7fffffffffffffff)]) rfl ?_
                  refine aw_ldc2d C k175 dX7_split_80 ?_
                  refine aw_dcmp C dX7_split_83 ?_
                  refine aw_if_lt C (tgt := 90) dX7_split_84 (by decide) (fun c_84 => ?_) (fun c_84 => ?_)
                  · have hp1 : fstN (hitP X.h X.v (S.F i) (S.H i) (S.V i)) 12 0 = nI k := by rw [← hs2, show 12 - k = (12 - (k + 1)) + 1 by omega, fstN_y (hitP_y c_42 (by rw [mk_near n1, Classical.not_not] at c_63; exact c_63) ((mk_nearL n2).mp c_84))]
                    have e1 : spQ S X.h X.v = i := by rw [← hs0, show S.nQ - i = (S.nQ - (i + 1)) + 1 by omega]; exact if_pos (decide_eq_true (by rw [hp1]; exact nI_m1 (by omega)))
                    have e3 : spS S X.h X.v = (S.wF (fu S.F i (upd (S.F i) k 3))).wc (upd S.c 10 (S.c 10 + 1)) := by
                      have e4 : spK S X.h X.v = k := by unfold spK; rw [e1, hp1]; exact ix_nI hk3 (by decide)
                      unfold spS
                      rw [e4, e1, if_pos hi]
                    refine aw_aload_n C dX7_split_90 rfl ?_
                    refine aw_getN C hE f163 (hM2.xq hi) rfl dX7_split_91 ?_
                    refine aw_iload_n C dX7_split_94 rfl ?_
                    refine aw_iconst C (v := 3) (by decide) dX7_split_95 ?_
                    refine aw_iastE C (hM2.wh hi) rfl ⟨hk3, by decide⟩ dX7_split_96 ?_
                    refine aw_re (P := fun μ1 => RM g K e0 (S.wF (fu S.F i (upd (S.F i) k 3))) X μ1 ∧ FrM K S.nA S.nQ μ μ1 ∧ μ1 o = some (.inr (0, [.int (nI (i + 1)), .int (nI i), .int (nI S.nQ), .ref (K 2 0)]))) ⟨hM2.setWh hi (upd (S.F i) k 3), hF2.mpw (m9 (by decide) hi), mp_k hit2 (tag_ne hit2 (hM2.wh hi) rfl)⟩ (fun μ3 hq => ?_)
                    obtain ⟨hM3, hF3, hit2⟩ := hq
                    refine aw_aload_n C dX7_split_97 rfl ?_
                    refine aw_dup C rfl dX7_split_98 ?_
                    refine aw_get C f179 hM3.mo rfl dX7_split_99 ?_
                    refine aw_iconst C (v := 1) (by decide) dX7_split_102 ?_
                    refine aw_iadd C dX7_split_103 ?_
                    refine aw_putE C f179 ftX7 (ty := .int) (by decide +kernel) rfl rfl hM3.mo (Nat.le_of_ble_eq_true rfl) (fs' := [.int X.th, .ref (K 1 0), .ref (K 2 0), .int ((S.wF (fu S.F i (upd (S.F i) k 3))).c 4), .int ((S.wF (fu S.F i (upd (S.F i) k 3))).c 5), .int ((S.wF (fu S.F i (upd (S.F i) k 3))).c 6), .int ((S.wF (fu S.F i (upd (S.F i) k 3))).c 9), .int (((S.wF (fu S.F i (upd (S.F i) k 3))).c 10) + 1), .int ((S.wF (fu S.F i (upd (S.F i) k 3))).c 8), .int ((S.wF (fu S.F i (upd (S.F i) k 3))).c 13), .int ((S.wF (fu S.F i (upd (S.F i) k 3))).c 7), .int ((S.wF (fu S.F i (upd (S.F i) k 3))).c 11), .int ((S.wF (fu S.F i (upd (S.F i) k 3))).c 14), .ref (K 3 0), .ref (K 4 0), .ref (K 5 0), .double X.ne, .int (nI X.T), .int X.il, .double X.h, .double X.v, .long X.sm]) rfl dX7_split_104 ?_
                    refine aw_re (P := fun μ1 => RM g K e0 ((S.wF (fu S.F i (upd (S.F i) k 3))).wc (upd (S.wF (fu S.F i (upd (S.F i) k 3))).c 10 (((S.wF (fu S.F i (upd (S.F i) k 3))).c 10) + 1))) X μ1 ∧ FrM K S.nA S.nQ μ μ1 ∧ μ1 o = some (.inr (0, [.int (nI (i + 1)), .int (nI i), .int (nI S.nQ), .ref (K 2 0)]))) ⟨hM3.setMo (upd (S.wF (fu S.F i (upd (S.F i) k 3))).c 10 (((S.wF (fu S.F i (upd (S.F i) k 3))).c 10) + 1)) X rfl rfl rfl, hF3.mpw (m0 (by decide)), mp_k hit2 (tag_ne hit2 hM3.mo rfl)⟩ (fun μ4 hq => ?_)
                    obtain ⟨hM4, hF4, hit2⟩ := hq
                    refine aw_vret C hQe ?_ (by omega) (by omega) dX7_split_107
                    rw [e3]
                    exact ⟨rfl, hM4, (FrM.rf : FrM K S.nA S.nQ μ μ).tr hF4⟩
                  · refine aw_goto C (tgt := 108) dX7_split_87 (by decide) ?_
                    refine aw_iinc C dX7_split_108 rfl (by decide) ?_
                    refine aw_goto C (tgt := 29) dX7_split_111 (by decide) ?_
                    have hs8 : fstN (hitP X.h X.v (S.F i) (S.H i) (S.V i)) (12 - (k + 1)) (k + 1) = fstN (hitP X.h X.v (S.F i) (S.H i) (S.V i)) 12 0 := by rw [← hs2, show 12 - k = (12 - (k + 1)) + 1 by omega, fstN_n (hitP_n (Or.inr (Or.inr (fun q => c_84 ((mk_nearL n2).mpr q)))))]
                    refine aw_lv (lv' := [(0, .ref (K 0 0)), (1, .ref o), (2, .ref (K 9 i)), (3, .int (nI k + Int32.ofInt 1))]) ⟨rfl, rfl, rfl, rfl, trivial⟩ ?_
                    exact ih2 _ (by omega) (k + 1) (nI k + Int32.ofInt 1) rfl (nI_inc k) (by omega) hs8
        exact loop29 _ 0 0 rfl rfl (by decide) rfl
  exact loop8 _ 0 (-1) _ rfl (Nat.zero_le _) rfl hM1 hF1 hit
abbrev csF (S : SS) (x y : Int32) : Prop := S.c 7 = 0 ∧ ¬ S.A (ix x) 5 = -1 ∧ S.F (ix (S.A (ix x) 5)) (ix y) = 0 ∧ (S.t 0 = 0 ∨ trF S = x)
theorem tr_T {S : SS} {X : XS} {b : Nat} (hI : Iv S) (hR : MR S X b) (h0 : ¬ S.t 0 = 0) : trF S = if X.T % 2 = 0 then S.t 1 else S.t 2 := by
  have e : ix (S.t 7) % 2 = X.T % 2 := by
    by_cases h8 : S.t 8 = 0
    · rw [on_set hI hR h0 h8]; omega
    · rw [on_last hI hR h0 h8]; omega
  unfold trF
  rw [e]
set_option maxRecDepth 100000 in
set_option maxHeartbeats 4000000 in
theorem k_X7_canShoot (B : Base s0) {μ : mu} {K : Nat → Nat → Nat} {e0 : Nat} {S : SS} {X : XS} (hM : RM g K e0 S X μ) (hI : Iv S) {b : Nat} (hR : MR S X b) {j k : Nat} (hj : j < S.nA) (hk : k < 12) (hb : b < 2 ^ 30) : Ct l yX7_canShoot wsX7_canShoot (rmOf 3 0 0 120) s0 D (tyL g) [.ref (K 0 0), .int (nI j), .int (nI k)] μ 0 0 (fun v9 μ' => v9 = some (.int (if csF S (nI j) (nI k) then 1 else 0)) ∧ μ' = μ) := by
  refine Ct.of (cc := cX7_canShoot) (own := RX7) (maxL := 4) (ret := (some .boolean)) (by decide) rfl rfl (Nat.le_of_ble_eq_true rfl) ?_
  intro p e s m args below meth c Q C hE hnm hQe
  have in_RX7 : ∀ w ∈ u_ws RX7 TX7 22, w ∈ wsX7_canShoot := by decide +kernel
  have in_RX5 : ∀ w ∈ u_ws RX5 TX5 12, w ∈ wsX7_canShoot := by decide +kernel
  have in_RX6 : ∀ w ∈ u_ws RX6 TX6 5, w ∈ wsX7_canShoot := by decide +kernel
  have f10 : FL wsX7_canShoot RX7 10 9 "ArrowFieldModel" RX7 TX7 22 1 := ⟨in_RX7, rfl, by decide, by decide +kernel, Or.inl rfl⟩
  have f182 : FL wsX7_canShoot RX7 182 9 "ArrowFieldModel" RX7 TX7 22 10 := ⟨in_RX7, rfl, by decide, by decide +kernel, Or.inl rfl⟩
  have f56 : FN s0 wsX7_canShoot RX7 56 7 "ArrowFieldModel$Archer" RX5 TX5 12 5 "ArrowFieldModel" := ⟨in_RX5, rfl, by decide, B.fnRX7_56, rfl⟩
  have f16 : FL wsX7_canShoot RX7 16 9 "ArrowFieldModel" RX7 TX7 22 2 := ⟨in_RX7, rfl, by decide, by decide +kernel, Or.inl rfl⟩
  have f163 : FN s0 wsX7_canShoot RX7 163 8 "ArrowFieldModel$Quiver" RX6 TX6 5 2 "ArrowFieldModel" := ⟨in_RX6, rfl, by decide, B.fnRX7_163, rfl⟩
  have f29 : FL wsX7_canShoot RX7 29 9 "ArrowFieldModel" RX7 TX7 22 13 := ⟨in_RX7, rfl, by decide, by decide +kernel, Or.inl rfl⟩
  have f186 : FL wsX7_canShoot RX7 186 9 "ArrowFieldModel" RX7 TX7 22 17 := ⟨in_RX7, rfl, by decide, by decide +kernel, Or.inl rfl⟩
  refine aw_aload_n C dX7_canShoot_0 rfl ?_
  refine aw_get C f10 hM.mo rfl dX7_canShoot_1 ?_
  refine aw_iload_n C dX7_canShoot_4 rfl ?_
  refine aw_callV (n := 1) C hE (ci := 1) (q := (RJx4a65c, TJx4a65c, 3)) (k_getA B hM hI hj) gX7_canShoot_Jx4a65c_get_915e3 rfl ⟨rfl, rfl⟩ (by decide +kernel) ⟨by decide, by decide⟩ rfl rfl hM.aL rfl (Nat.le_of_ble_eq_true rfl) dX7_canShoot_5 ⟨by decide, by decide⟩ (fun v μ' hp => ?_)
  obtain ⟨rfl, hm9⟩ := hp
  replace hm9 := hm9.symm
  subst hm9
  refine aw_st (st' := [.ref (K 8 j)]) rfl ?_
  refine aw_cast C (ci := 7) (by decide +kernel) (va_Nw.warmC hE.1 B.caXa) rfl (hM.xa hj) dX7_canShoot_8 ?_
  refine aw_astore_n C dX7_canShoot_11 (by decide) ?_
  refine aw_aload_n C dX7_canShoot_12 rfl ?_
  refine aw_get C f182 hM.mo rfl dX7_canShoot_13 ?_
  refine aw_if_ne C (tgt := 49) dX7_canShoot_16 (by decide) (fun c_16 => ?_) (fun c_16 => ?_)
  · refine aw_iconst C (v := 0) (by decide) dX7_canShoot_49 ?_
    refine aw_zret C hQe rfl ?_ (by omega) (by omega) dX7_canShoot_50
    have ej6 : ix (nI j) = j := ix_nI hj (by have := hI.A6; omega)
    have ek6 : ix (nI k) = k := ix_nI hk (by decide)
    have e9 : ¬ csF S (nI j) (nI k) := fun q => c_16 q.1
    exact ⟨by rw [if_neg e9], rfl⟩
  · refine aw_aload_n C dX7_canShoot_19 rfl ?_
    refine aw_getN C hE f56 (hM.xa hj) rfl dX7_canShoot_20 ?_
    refine aw_iconst C (v := (-1)) (by decide) dX7_canShoot_23 ?_
    refine aw_icmp_eq C (tgt := 49) dX7_canShoot_24 (by decide) (fun c_24 => ?_) (fun c_24 => ?_)
    · refine aw_iconst C (v := 0) (by decide) dX7_canShoot_49 ?_
      refine aw_zret C hQe rfl ?_ (by omega) (by omega) dX7_canShoot_50
      have ej6 : ix (nI j) = j := ix_nI hj (by have := hI.A6; omega)
      have ek6 : ix (nI k) = k := ix_nI hk (by decide)
      have e9 : ¬ csF S (nI j) (nI k) := fun q => q.2.1 (by rw [ej6]; exact c_24)
      exact ⟨by rw [if_neg e9], rfl⟩
    · refine aw_aload_n C dX7_canShoot_27 rfl ?_
      refine aw_callV (n := 0) C hE (ci := 9) (q := (RX7, TX7, 22)) (k_X7_isOn B hM hI hR) gX7_canShoot_X7_isOn rfl ⟨rfl, rfl⟩ (by decide +kernel) ⟨by decide, by decide⟩ rfl rfl hM.mo rfl (Nat.le_of_ble_eq_true rfl) dX7_canShoot_28 ⟨by decide, by decide⟩ (fun v μ' hp => ?_)
      obtain ⟨rfl, hm9⟩ := hp
      replace hm9 := hm9.symm
      subst hm9
      refine aw_st (st' := [.int (if S.t 0 = 0 then 0 else 1)]) rfl ?_
      by_cases b28 : S.t 0 = 0
      · refine aw_eqi (y := 0) (if_pos b28) ?_
        refine aw_if_eq C (tgt := 51) dX7_canShoot_31 (by decide) (fun _ => ?_) (fun c9 => absurd (by decide) c9)
        obtain ⟨u, hu, huq⟩ := (hI.2.2.2.1 j hj).2.2.resolve_left c_24
        have eu6 : ix (nI u) = u := ix_nI hu (by have := hI.Q6; omega)
        refine aw_aload_n C dX7_canShoot_51 rfl ?_
        refine aw_get C f16 hM.mo rfl dX7_canShoot_52 ?_
        refine aw_aload_n C dX7_canShoot_55 rfl ?_
        refine aw_getN C hE f56 (hM.xa hj) rfl dX7_canShoot_56 ?_
        refine aw_eqi (y := nI u) huq ?_
        refine aw_callV (n := 1) C hE (ci := 1) (q := (RJx4a65c, TJx4a65c, 3)) (k_getQ B hM hI hu) gX7_canShoot_Jx4a65c_get_915e3 rfl ⟨rfl, rfl⟩ (by decide +kernel) ⟨by decide, by decide⟩ rfl rfl hM.qL rfl (Nat.le_of_ble_eq_true rfl) dX7_canShoot_59 ⟨by decide, by decide⟩ (fun v μ' hp => ?_)
        obtain ⟨rfl, hm9⟩ := hp
        replace hm9 := hm9.symm
        subst hm9
        refine aw_st (st' := [.ref (K 9 u)]) rfl ?_
        refine aw_cast C (ci := 8) (by decide +kernel) (va_Nw.warmC hE.1 B.caXq) rfl (hM.xq hu) dX7_canShoot_62 ?_
        refine aw_getN C hE f163 (hM.xq hu) rfl dX7_canShoot_65 ?_
        refine aw_iload_n C dX7_canShoot_68 rfl ?_
        refine aw_ialdE C (hM.wh hu) rfl ⟨hk, by decide⟩ rfl dX7_canShoot_69 ?_
        refine aw_if_ne C (tgt := 77) dX7_canShoot_70 (by decide) (fun c_70 => ?_) (fun c_70 => ?_)
        · refine aw_iconst C (v := 0) (by decide) dX7_canShoot_77 ?_
          refine aw_zret C hQe rfl ?_ (by omega) (by omega) dX7_canShoot_78
          have ej6 : ix (nI j) = j := ix_nI hj (by have := hI.A6; omega)
          have ek6 : ix (nI k) = k := ix_nI hk (by decide)
          have e9 : ¬ csF S (nI j) (nI k) := fun q => c_70 (by have z := q.2.2.1; rwa [ej6, huq, eu6, ek6] at z)
          exact ⟨by rw [if_neg e9], rfl⟩
        · refine aw_iconst C (v := 1) (by decide) dX7_canShoot_73 ?_
          refine aw_goto C (tgt := 78) dX7_canShoot_74 (by decide) ?_
          refine aw_zret C hQe rfl ?_ (by omega) (by omega) dX7_canShoot_78
          have ej6 : ix (nI j) = j := ix_nI hj (by have := hI.A6; omega)
          have ek6 : ix (nI k) = k := ix_nI hk (by decide)
          have e9 : csF S (nI j) (nI k) := ⟨c_16, by rw [ej6]; exact c_24, by rw [ej6, huq, eu6, ek6]; exact c_70, (Or.inl b28)⟩
          exact ⟨by rw [if_pos e9], rfl⟩
      · refine aw_eqi (y := 1) (if_neg b28) ?_
        refine aw_if_eq C (tgt := 51) dX7_canShoot_31 (by decide) (fun c9 => absurd c9 (by decide)) (fun _ => ?_)
        refine aw_aload_n C dX7_canShoot_34 rfl ?_
        refine aw_get C f29 hM.mo rfl dX7_canShoot_35 ?_
        refine aw_aload_n C dX7_canShoot_38 rfl ?_
        refine aw_get C f186 hM.mo rfl dX7_canShoot_39 ?_
        refine aw_iconst C (v := 2) (by decide) dX7_canShoot_42 ?_
        refine aw_irem C (by decide) dX7_canShoot_43 ?_
        refine aw_eqi (y := nI (X.T % 2)) (pk_rem (d := 2) (by have := hR.1; omega) (by decide) (by decide)) ?_
        refine aw_ialdE C hM.pa rfl ⟨by omega, by decide⟩ rfl dX7_canShoot_44 ?_
        obtain ⟨-, k7, -, -, h74, h7, -⟩ := hI.on b28
        obtain ⟨p0, p1, -⟩ := hR.2.2 b28
        have htr : X.pa (X.T % 2) = trF S := by
          rw [tr_T hI hR b28]
          rcases (show X.T % 2 = 0 ∨ X.T % 2 = 1 by omega) with q | q
          · rw [q]; exact p0
          · rw [q]; exact p1
        refine aw_iload_n C dX7_canShoot_45 rfl ?_
        refine aw_icmp_eq C (tgt := 51) dX7_canShoot_46 (by decide) (fun c_46 => ?_) (fun c_46 => ?_)
        · obtain ⟨u, hu, huq⟩ := (hI.2.2.2.1 j hj).2.2.resolve_left c_24
          have eu6 : ix (nI u) = u := ix_nI hu (by have := hI.Q6; omega)
          refine aw_aload_n C dX7_canShoot_51 rfl ?_
          refine aw_get C f16 hM.mo rfl dX7_canShoot_52 ?_
          refine aw_aload_n C dX7_canShoot_55 rfl ?_
          refine aw_getN C hE f56 (hM.xa hj) rfl dX7_canShoot_56 ?_
          refine aw_eqi (y := nI u) huq ?_
          refine aw_callV (n := 1) C hE (ci := 1) (q := (RJx4a65c, TJx4a65c, 3)) (k_getQ B hM hI hu) gX7_canShoot_Jx4a65c_get_915e3 rfl ⟨rfl, rfl⟩ (by decide +kernel) ⟨by decide, by decide⟩ rfl rfl hM.qL rfl (Nat.le_of_ble_eq_true rfl) dX7_canShoot_59 ⟨by decide, by decide⟩ (fun v μ' hp => ?_)
          obtain ⟨rfl, hm9⟩ := hp
          replace hm9 := hm9.symm
          subst hm9
          refine aw_st (st' := [.ref (K 9 u)]) rfl ?_
          refine aw_cast C (ci := 8) (by decide +kernel) (va_Nw.warmC hE.1 B.caXq) rfl (hM.xq hu) dX7_canShoot_62 ?_
          refine aw_getN C hE f163 (hM.xq hu) rfl dX7_canShoot_65 ?_
          refine aw_iload_n C dX7_canShoot_68 rfl ?_
          refine aw_ialdE C (hM.wh hu) rfl ⟨hk, by decide⟩ rfl dX7_canShoot_69 ?_
          refine aw_if_ne C (tgt := 77) dX7_canShoot_70 (by decide) (fun c_70 => ?_) (fun c_70 => ?_)
          · refine aw_iconst C (v := 0) (by decide) dX7_canShoot_77 ?_
            refine aw_zret C hQe rfl ?_ (by omega) (by omega) dX7_canShoot_78
            have ej6 : ix (nI j) = j := ix_nI hj (by have := hI.A6; omega)
            have ek6 : ix (nI k) = k := ix_nI hk (by decide)
            have e9 : ¬ csF S (nI j) (nI k) := fun q => c_70 (by have z := q.2.2.1; rwa [ej6, huq, eu6, ek6] at z)
            exact ⟨by rw [if_neg e9], rfl⟩
          · refine aw_iconst C (v := 1) (by decide) dX7_canShoot_73 ?_
            refine aw_goto C (tgt := 78) dX7_canShoot_74 (by decide) ?_
            refine aw_zret C hQe rfl ?_ (by omega) (by omega) dX7_canShoot_78
            have ej6 : ix (nI j) = j := ix_nI hj (by have := hI.A6; omega)
            have ek6 : ix (nI k) = k := ix_nI hk (by decide)
            have e9 : csF S (nI j) (nI k) := ⟨c_16, by rw [ej6]; exact c_24, by rw [ej6, huq, eu6, ek6]; exact c_70, (Or.inr (htr.symm.trans c_46))⟩
            exact ⟨by rw [if_pos e9], rfl⟩
        · refine aw_iconst C (v := 0) (by decide) dX7_canShoot_49 ?_
          refine aw_zret C hQe rfl ?_ (by omega) (by omega) dX7_canShoot_50
          have ej6 : ix (nI j) = j := ix_nI hj (by have := hI.A6; omega)
          have ek6 : ix (nI k) = k := ix_nI hk (by decide)
          have e9 : ¬ csF S (nI j) (nI k) := fun q => q.2.2.2.elim b28 (fun z => c_46 (htr.trans z))
          exact ⟨by rw [if_neg e9], rfl⟩
set_option maxRecDepth 100000 in
set_option maxHeartbeats 4000000 in
theorem k_X7_shoot (B : Base s0) {μ : mu} {K : Nat → Nat → Nat} {e0 : Nat} {S : SS} {X : XS} (hM : RM g K e0 S X μ) (hI : Iv S) {b : Nat} (hR : MR S X b) {x y : Int32} (hb : b < 2 ^ 30) : Ct l yX7_shoot wsX7_shoot (rmOf 5 1 4 200) s0 D (tyL g) [.ref (K 0 0), .int x, .int y] μ 1 4 (fun v9 μ' => (∃ r : Int32, v9 = some (.int r) ∧ (shC S x y = 0 → r = shR S (ix x) (ix (S.A (ix x) 5)))) ∧ PMx g K e0 S (shS S (ix x) (ix (S.A (ix x) 5)) (ix y)) (shC S x y) (b + 1) μ μ') := by
  refine Ct.of (cc := cX7_shoot) (own := RX7) (maxL := 8) (ret := (some .int)) (by decide) rfl rfl (Nat.le_of_ble_eq_true rfl) ?_
  intro p e s m args below meth c Q C hE hnm hQe
  have in_RX7 : ∀ w ∈ u_ws RX7 TX7 22, w ∈ wsX7_shoot := by decide +kernel
  have in_RX5 : ∀ w ∈ u_ws RX5 TX5 12, w ∈ wsX7_shoot := by decide +kernel
  have in_RX6 : ∀ w ∈ u_ws RX6 TX6 5, w ∈ wsX7_shoot := by decide +kernel
  have f39 : FL wsX7_shoot RX7 39 9 "ArrowFieldModel" RX7 TX7 22 0 := ⟨in_RX7, rfl, by decide, by decide +kernel, Or.inl rfl⟩
  have f10 : FL wsX7_shoot RX7 10 9 "ArrowFieldModel" RX7 TX7 22 1 := ⟨in_RX7, rfl, by decide, by decide +kernel, Or.inl rfl⟩
  have f16 : FL wsX7_shoot RX7 16 9 "ArrowFieldModel" RX7 TX7 22 2 := ⟨in_RX7, rfl, by decide, by decide +kernel, Or.inl rfl⟩
  have f56 : FN s0 wsX7_shoot RX7 56 7 "ArrowFieldModel$Archer" RX5 TX5 12 5 "ArrowFieldModel" := ⟨in_RX5, rfl, by decide, B.fnRX7_56, rfl⟩
  have f97 : FN s0 wsX7_shoot RX7 97 7 "ArrowFieldModel$Archer" RX5 TX5 12 2 "ArrowFieldModel" := ⟨in_RX5, rfl, by decide, B.fnRX7_97, rfl⟩
  have f19 : FL wsX7_shoot RX7 19 9 "ArrowFieldModel" RX7 TX7 22 3 := ⟨in_RX7, rfl, by decide, by decide +kernel, Or.inl rfl⟩
  have f197 : FL wsX7_shoot RX7 197 9 "ArrowFieldModel" RX7 TX7 22 8 := ⟨in_RX7, rfl, by decide, by decide +kernel, Or.inl rfl⟩
  have f148 : FL wsX7_shoot RX7 148 9 "ArrowFieldModel" RX7 TX7 22 19 := ⟨in_RX7, rfl, by decide, by decide +kernel, Or.inl rfl⟩
  have k200 : Cond.constantDouble RX7 200 (4615063718147915776) ∈ wsX7_shoot := by decide +kernel
  have f67 : FN s0 wsX7_shoot RX7 67 7 "ArrowFieldModel$Archer" RX5 TX5 12 1 "ArrowFieldModel" := ⟨in_RX5, rfl, by decide, B.fnRX7_67, rfl⟩
  have k202 : Cond.constantDouble RX7 202 (4661225614328463360) ∈ wsX7_shoot := by decide +kernel
  have f152 : FL wsX7_shoot RX7 152 9 "ArrowFieldModel" RX7 TX7 22 20 := ⟨in_RX7, rfl, by decide, by decide +kernel, Or.inl rfl⟩
  have f166 : FN s0 wsX7_shoot RX7 166 8 "ArrowFieldModel$Quiver" RX6 TX6 5 3 "ArrowFieldModel" := ⟨in_RX6, rfl, by decide, B.fnRX7_166, rfl⟩
  have f177 : FN s0 wsX7_shoot RX7 177 8 "ArrowFieldModel$Quiver" RX6 TX6 5 4 "ArrowFieldModel" := ⟨in_RX6, rfl, by decide, B.fnRX7_177, rfl⟩
  have k211 : Cond.constantFloat RX7 211 (1040187392) ∈ wsX7_shoot := by decide +kernel
  have f103 : FN s0 wsX7_shoot RX7 103 7 "ArrowFieldModel$Archer" RX5 TX5 12 4 "ArrowFieldModel" := ⟨in_RX5, rfl, by decide, B.fnRX7_103, rfl⟩
  have k212 : Cond.constantFloat RX7 212 (998244352) ∈ wsX7_shoot := by decide +kernel
  have f217 : FN s0 wsX7_shoot RX7 217 7 "ArrowFieldModel$Archer" RX5 TX5 12 6 "ArrowFieldModel" := ⟨in_RX5, rfl, by decide, B.fnRX7_217, rfl⟩
  have f220 : FN s0 wsX7_shoot RX7 220 7 "ArrowFieldModel$Archer" RX5 TX5 12 7 "ArrowFieldModel" := ⟨in_RX5, rfl, by decide, B.fnRX7_220, rfl⟩
  have f223 : FN s0 wsX7_shoot RX7 223 7 "ArrowFieldModel$Archer" RX5 TX5 12 9 "ArrowFieldModel" := ⟨in_RX5, rfl, by decide, B.fnRX7_223, rfl⟩
  have f226 : FN s0 wsX7_shoot RX7 226 7 "ArrowFieldModel$Archer" RX5 TX5 12 10 "ArrowFieldModel" := ⟨in_RX5, rfl, by decide, B.fnRX7_226, rfl⟩
  have f229 : FN s0 wsX7_shoot RX7 229 7 "ArrowFieldModel$Archer" RX5 TX5 12 11 "ArrowFieldModel" := ⟨in_RX5, rfl, by decide, B.fnRX7_229, rfl⟩
  have f232 : FL wsX7_shoot RX7 232 9 "ArrowFieldModel" RX7 TX7 22 6 := ⟨in_RX7, rfl, by decide, by decide +kernel, Or.inl rfl⟩
  have f163 : FN s0 wsX7_shoot RX7 163 8 "ArrowFieldModel$Quiver" RX6 TX6 5 2 "ArrowFieldModel" := ⟨in_RX6, rfl, by decide, B.fnRX7_163, rfl⟩
  have hy : inb y 12 = btw y 0 11 := by
      have h := btw_inb (x := y) (n := 12) (by decide)
      rw [show nI 12 - 1 = (11 : Int32) by decide] at h
      exact h.symm
  refine aw_aload_n C dX7_shoot_0 rfl ?_
  refine aw_iconst C (v := 0) (by decide) dX7_shoot_1 ?_
  refine aw_putE C f39 ftX7 (ty := .int) (by decide +kernel) rfl rfl hM.mo (Nat.le_of_ble_eq_true rfl) (fs' := [.int 0, .ref (K 1 0), .ref (K 2 0), .int (S.c 4), .int (S.c 5), .int (S.c 6), .int (S.c 9), .int (S.c 10), .int (S.c 8), .int (S.c 13), .int (S.c 7), .int (S.c 11), .int (S.c 14), .ref (K 3 0), .ref (K 4 0), .ref (K 5 0), .double X.ne, .int (nI X.T), .int X.il, .double X.h, .double X.v, .long X.sm]) rfl dX7_shoot_2 ?_
  refine aw_re (P := fun μ1 => RM g K e0 S (X.wth 0) μ1 ∧ FrM K S.nA S.nQ μ μ1) ⟨hM.setX (X.wth 0) rfl rfl rfl, (FrM.rf : FrM K S.nA S.nQ μ μ).mpw (m0 (by decide))⟩ (fun μ1 hq => ?_)
  obtain ⟨hM1, hF1⟩ := hq
  refine aw_aload_n C dX7_shoot_5 rfl ?_
  refine aw_iload_n C dX7_shoot_6 rfl ?_
  refine aw_callV (n := 1) C hE (ci := 9) (q := (RX7, TX7, 22)) (k_X7_isArcher (x := x) B hM1 hI) gX7_shoot_X7_isArcher rfl ⟨rfl, rfl⟩ (by decide +kernel) ⟨by decide, by decide⟩ rfl rfl hM1.mo rfl (Nat.le_of_ble_eq_true rfl) dX7_shoot_7 ⟨by decide, by decide⟩ (fun v μ' hp => ?_)
  obtain ⟨rfl, hm9⟩ := hp
  replace hm9 := hm9.symm
  subst hm9
  refine aw_st (st' := [.int (if inb x S.nA = true then 1 else 0)]) rfl ?_
  by_cases b7 : inb x S.nA = true
  · refine aw_eqi (y := 1) (if_pos b7) ?_
    refine aw_if_eq C (tgt := 23) dX7_shoot_10 (by decide) (fun c9 => absurd c9 (by decide)) (fun _ => ?_)
    refine aw_iload_n C dX7_shoot_13 rfl ?_
    refine aw_iconst C (v := 0) (by decide) dX7_shoot_14 ?_
    refine aw_bipush C (v := 11) (by decide) dX7_shoot_15 ?_
    refine aw_callS (n := 3) C hE (k_X7_is (x := y) (lo := 0) (hi := 11) B) gX7_shoot_X7_is rfl ⟨rfl, rfl⟩ (by decide +kernel) ⟨by decide, by decide⟩ rfl rfl (Nat.le_of_ble_eq_true rfl) dX7_shoot_17 ⟨by decide, by decide⟩ (fun v μ' hp => ?_)
    obtain ⟨rfl, hm9⟩ := hp
    replace hm9 := hm9.symm
    subst hm9
    refine aw_st (st' := [.int (if btw y 0 11 = true then 1 else 0)]) rfl ?_
    by_cases b17 : btw y 0 11 = true
    · refine aw_eqi (y := 1) (if_pos b17) ?_
      refine aw_if_ne C (tgt := 29) dX7_shoot_20 (by decide) (fun _ => ?_) (fun c9 => absurd c9 (by decide))
      have hb2 : inb y 12 = true := by rw [hy]; exact b17
      obtain ⟨j, hj, rfl⟩ := inb_of b7 (by have := hI.A6; omega)
      obtain ⟨k, hk, rfl⟩ := inb_of hb2 (by decide)
      refine aw_aload_n C dX7_shoot_29 rfl ?_
      refine aw_iload_n C dX7_shoot_30 rfl ?_
      refine aw_iload_n C dX7_shoot_31 rfl ?_
      refine aw_callV (n := 2) C hE (ci := 9) (q := (RX7, TX7, 22)) (k_X7_canShoot B hM1 hI (show MR S _ b from hR) hj hk hb) gX7_shoot_X7_canShoot rfl ⟨rfl, rfl⟩ (by decide +kernel) ⟨by decide, by decide⟩ rfl rfl hM1.mo rfl (Nat.le_of_ble_eq_true rfl) dX7_shoot_32 ⟨by decide, by decide⟩ (fun v μ' hp => ?_)
      obtain ⟨rfl, hm9⟩ := hp
      replace hm9 := hm9.symm
      subst hm9
      refine aw_st (st' := [.int (if csF S (nI j) (nI k) then 1 else 0)]) rfl ?_
      by_cases bc : csF S (nI j) (nI k)
      · refine aw_eqi (y := 1) (if_pos bc) ?_
        refine aw_if_ne C (tgt := 44) dX7_shoot_35 (by decide) (fun _ => ?_) (fun c9 => absurd c9 (by decide))
        have ej6 : ix (nI j) = j := ix_nI hj (by have := hI.A6; omega)
        have ek6 : ix (nI k) = k := ix_nI hk (by decide)
        obtain ⟨g1, g2, g3, g4⟩ := id bc
        rw [ej6] at g2
        obtain ⟨u, hu, huq⟩ := (hI.2.2.2.1 j hj).2.2.resolve_left g2
        have eu6 : ix (nI u) = u := ix_nI hu (by have := hI.Q6; omega)
        refine aw_aload_n C dX7_shoot_44 rfl ?_
        refine aw_get C f10 hM1.mo rfl dX7_shoot_45 ?_
        refine aw_iload_n C dX7_shoot_48 rfl ?_
        refine aw_callV (n := 1) C hE (ci := 1) (q := (RJx4a65c, TJx4a65c, 3)) (k_getA B hM1 hI hj) gX7_shoot_Jx4a65c_get_915e3 rfl ⟨rfl, rfl⟩ (by decide +kernel) ⟨by decide, by decide⟩ rfl rfl hM1.aL rfl (Nat.le_of_ble_eq_true rfl) dX7_shoot_49 ⟨by decide, by decide⟩ (fun v μ' hp => ?_)
        obtain ⟨rfl, hm9⟩ := hp
        replace hm9 := hm9.symm
        subst hm9
        refine aw_st (st' := [.ref (K 8 j)]) rfl ?_
        refine aw_cast C (ci := 7) (by decide +kernel) (va_Nw.warmC hE.1 B.caXa) rfl (hM1.xa hj) dX7_shoot_52 ?_
        refine aw_astore_n C dX7_shoot_55 (by decide) ?_
        refine aw_aload_n C dX7_shoot_56 rfl ?_
        refine aw_get C f16 hM1.mo rfl dX7_shoot_57 ?_
        refine aw_aload_n C dX7_shoot_60 rfl ?_
        refine aw_getN C hE f56 (hM1.xa hj) rfl dX7_shoot_61 ?_
        refine aw_eqi (y := nI u) huq ?_
        refine aw_callV (n := 1) C hE (ci := 1) (q := (RJx4a65c, TJx4a65c, 3)) (k_getQ B hM1 hI hu) gX7_shoot_Jx4a65c_get_915e3 rfl ⟨rfl, rfl⟩ (by decide +kernel) ⟨by decide, by decide⟩ rfl rfl hM1.qL rfl (Nat.le_of_ble_eq_true rfl) dX7_shoot_64 ⟨by decide, by decide⟩ (fun v μ' hp => ?_)
        obtain ⟨rfl, hm9⟩ := hp
        replace hm9 := hm9.symm
        subst hm9
        refine aw_st (st' := [.ref (K 9 u)]) rfl ?_
        refine aw_cast C (ci := 8) (by decide +kernel) (va_Nw.warmC hE.1 B.caXq) rfl (hM1.xq hu) dX7_shoot_67 ?_
        refine aw_astore C dX7_shoot_70 (by decide) ?_
        refine aw_aload_n C dX7_shoot_72 rfl ?_
        refine aw_aload_n C dX7_shoot_73 rfl ?_
        refine aw_aload C dX7_shoot_74 rfl ?_
        refine aw_aload_n C dX7_shoot_76 rfl ?_
        refine aw_getN C hE f97 (hM1.xa hj) rfl dX7_shoot_77 ?_
        refine aw_aload_n C dX7_shoot_80 rfl ?_
        refine aw_get C f19 hM1.mo rfl dX7_shoot_81 ?_
        refine aw_callV (n := 4) C hE (ci := 9) (q := (RX7, TX7, 22)) (k_X7_fly (sight := S.A j 2) (di := S.c 4) B hM1 hI hj hu hI.2.1.2) gX7_shoot_X7_fly rfl ⟨rfl, rfl⟩ (by decide +kernel) ⟨by decide, by decide⟩ rfl rfl hM1.mo rfl (Nat.le_of_ble_eq_true rfl) dX7_shoot_84 ⟨by decide, by decide⟩ (fun v μ' hp => ?_)
        obtain ⟨rfl, hM2, hG2⟩ := hp
        have hF2 : FrM K S.nA S.nQ μ _ := hF1.tr hG2
        refine aw_st (st' := []) rfl ?_
        refine aw_re (P := fun μ1 => RM g K e0 S (((X.wth 0).wh (flH S j u (S.A j 2) (S.c 4))).wv (flV S j u (S.A j 2) (S.c 4))) μ1 ∧ FrM K S.nA S.nQ μ μ1) ⟨hM2, hF2⟩ (fun μ3 hq => ?_)
        obtain ⟨hM3, hF3⟩ := hq
        refine aw_aload_n C dX7_shoot_87 rfl ?_
        refine aw_bipush C (v := 13) (by decide) dX7_shoot_88 ?_
        refine aw_aload_n C dX7_shoot_90 rfl ?_
        refine aw_get C f197 hM3.mo rfl dX7_shoot_91 ?_
        refine aw_imul C dX7_shoot_94 ?_
        refine aw_bipush C (v := 7) (by decide) dX7_shoot_95 ?_
        refine aw_iadd C dX7_shoot_97 ?_
        refine aw_bipush C (v := 64) (by decide) dX7_shoot_98 ?_
        refine aw_irem C (by decide) dX7_shoot_100 ?_
        refine aw_eqi (y := drN S) rfl ?_
        refine aw_putE C f197 ftX7 (ty := .int) (by decide +kernel) rfl rfl hM3.mo (Nat.le_of_ble_eq_true rfl) (fs' := [.int 0, .ref (K 1 0), .ref (K 2 0), .int (S.c 4), .int (S.c 5), .int (S.c 6), .int (S.c 9), .int (S.c 10), .int (drN S), .int (S.c 13), .int (S.c 7), .int (S.c 11), .int (S.c 14), .ref (K 3 0), .ref (K 4 0), .ref (K 5 0), .double X.ne, .int (nI X.T), .int X.il, .double (flH S j u (S.A j 2) (S.c 4)), .double (flV S j u (S.A j 2) (S.c 4)), .long X.sm]) rfl dX7_shoot_101 ?_
        refine aw_re (P := fun μ1 => RM g K e0 (S.wc (upd S.c 8 (drN S))) (((X.wth 0).wh (flH S j u (S.A j 2) (S.c 4))).wv (flV S j u (S.A j 2) (S.c 4))) μ1 ∧ FrM K S.nA S.nQ μ μ1) ⟨hM3.setMo (upd S.c 8 (drN S)) (((X.wth 0).wh (flH S j u (S.A j 2) (S.c 4))).wv (flV S j u (S.A j 2) (S.c 4))) rfl rfl rfl, hF3.mpw (m0 (by decide))⟩ (fun μ4 hq => ?_)
        obtain ⟨hM4, hF4⟩ := hq
        refine aw_aload_n C dX7_shoot_104 rfl ?_
        refine aw_aload_n C dX7_shoot_105 rfl ?_
        refine aw_get C f148 hM4.mo rfl dX7_shoot_106 ?_
        refine aw_aload_n C dX7_shoot_109 rfl ?_
        refine aw_get C f197 hM4.mo rfl dX7_shoot_110 ?_
        refine aw_eqi (y := drN S) rfl ?_
        refine aw_bipush C (v := 8) (by decide) dX7_shoot_113 ?_
        refine aw_irem C (by decide) dX7_shoot_115 ?_
        refine aw_i2d C dX7_shoot_116 ?_
        refine aw_ldc2d C k200 dX7_shoot_117 ?_
        refine aw_dsub C (shkF_ok (drN S - drN S / 8 * 8) (S.A j 1) (S.c 4)).1 dX7_shoot_120 ?_
        refine aw_bipush C (v := 9) (by decide) dX7_shoot_121 ?_
        refine aw_aload_n C dX7_shoot_123 rfl ?_
        refine aw_getN C hE f67 (hM4.xa hj) rfl dX7_shoot_124 ?_
        refine aw_eqi (y := S.A j 1) rfl ?_
        refine aw_isub C dX7_shoot_127 ?_
        refine aw_i2d C dX7_shoot_128 ?_
        refine aw_dmul C (shkF_ok (drN S - drN S / 8 * 8) (S.A j 1) (S.c 4)).2.1 dX7_shoot_129 ?_
        refine aw_aload_n C dX7_shoot_130 rfl ?_
        refine aw_get C f19 hM4.mo rfl dX7_shoot_131 ?_
        refine aw_eqi (y := S.c 4) rfl ?_
        refine aw_i2d C dX7_shoot_134 ?_
        refine aw_dmul C (shkF_ok (drN S - drN S / 8 * 8) (S.A j 1) (S.c 4)).2.2.1 dX7_shoot_135 ?_
        refine aw_ldc2d C k202 dX7_shoot_136 ?_
        refine aw_ddiv C (shkF_ok (drN S - drN S / 8 * 8) (S.A j 1) (S.c 4)).2.2.2.1 dX7_shoot_139 ?_
        refine aw_dadd C (shk_add (fl_ok hI hj hu _ hI.2.1.2).1 (drN S - drN S / 8 * 8) (S.A j 1) (S.c 4)).1 dX7_shoot_140 ?_
        refine aw_eqd (y := shH S j u) rfl ?_
        refine aw_putE C f148 ftX7 (ty := .double) (by decide +kernel) rfl rfl hM4.mo (Nat.le_of_ble_eq_true rfl) (fs' := [.int 0, .ref (K 1 0), .ref (K 2 0), .int ((S.wc (upd S.c 8 (drN S))).c 4), .int ((S.wc (upd S.c 8 (drN S))).c 5), .int ((S.wc (upd S.c 8 (drN S))).c 6), .int ((S.wc (upd S.c 8 (drN S))).c 9), .int ((S.wc (upd S.c 8 (drN S))).c 10), .int ((S.wc (upd S.c 8 (drN S))).c 8), .int ((S.wc (upd S.c 8 (drN S))).c 13), .int ((S.wc (upd S.c 8 (drN S))).c 7), .int ((S.wc (upd S.c 8 (drN S))).c 11), .int ((S.wc (upd S.c 8 (drN S))).c 14), .ref (K 3 0), .ref (K 4 0), .ref (K 5 0), .double X.ne, .int (nI X.T), .int X.il, .double (shH S j u), .double (flV S j u (S.A j 2) (S.c 4)), .long X.sm]) rfl dX7_shoot_141 ?_
        refine aw_re (P := fun μ1 => RM g K e0 (S.wc (upd S.c 8 (drN S))) (((X.wth 0).wh (shH S j u)).wv (flV S j u (S.A j 2) (S.c 4))) μ1 ∧ FrM K S.nA S.nQ μ μ1) ⟨hM4.setX (((X.wth 0).wh (shH S j u)).wv (flV S j u (S.A j 2) (S.c 4))) rfl rfl rfl, hF4.mpw (m0 (by decide))⟩ (fun μ5 hq => ?_)
        obtain ⟨hM5, hF5⟩ := hq
        refine aw_aload_n C dX7_shoot_144 rfl ?_
        refine aw_aload_n C dX7_shoot_145 rfl ?_
        refine aw_get C f152 hM5.mo rfl dX7_shoot_146 ?_
        refine aw_aload_n C dX7_shoot_149 rfl ?_
        refine aw_get C f197 hM5.mo rfl dX7_shoot_150 ?_
        refine aw_eqi (y := drN S) rfl ?_
        refine aw_bipush C (v := 8) (by decide) dX7_shoot_153 ?_
        refine aw_idiv C (by decide) dX7_shoot_155 ?_
        refine aw_i2d C dX7_shoot_156 ?_
        refine aw_ldc2d C k200 dX7_shoot_157 ?_
        refine aw_dsub C (shkF_ok (drN S / 8) (S.A j 1) (S.c 4)).1 dX7_shoot_160 ?_
        refine aw_bipush C (v := 9) (by decide) dX7_shoot_161 ?_
        refine aw_aload_n C dX7_shoot_163 rfl ?_
        refine aw_getN C hE f67 (hM5.xa hj) rfl dX7_shoot_164 ?_
        refine aw_eqi (y := S.A j 1) rfl ?_
        refine aw_isub C dX7_shoot_167 ?_
        refine aw_i2d C dX7_shoot_168 ?_
        refine aw_dmul C (shkF_ok (drN S / 8) (S.A j 1) (S.c 4)).2.1 dX7_shoot_169 ?_
        refine aw_aload_n C dX7_shoot_170 rfl ?_
        refine aw_get C f19 hM5.mo rfl dX7_shoot_171 ?_
        refine aw_eqi (y := S.c 4) rfl ?_
        refine aw_i2d C dX7_shoot_174 ?_
        refine aw_dmul C (shkF_ok (drN S / 8) (S.A j 1) (S.c 4)).2.2.1 dX7_shoot_175 ?_
        refine aw_ldc2d C k202 dX7_shoot_176 ?_
        refine aw_ddiv C (shkF_ok (drN S / 8) (S.A j 1) (S.c 4)).2.2.2.1 dX7_shoot_179 ?_
        refine aw_dadd C (shk_add (fl_ok hI hj hu _ hI.2.1.2).2 (drN S / 8) (S.A j 1) (S.c 4)).1 dX7_shoot_180 ?_
        refine aw_eqd (y := shV S j u) rfl ?_
        refine aw_putE C f152 ftX7 (ty := .double) (by decide +kernel) rfl rfl hM5.mo (Nat.le_of_ble_eq_true rfl) (fs' := [.int 0, .ref (K 1 0), .ref (K 2 0), .int ((S.wc (upd S.c 8 (drN S))).c 4), .int ((S.wc (upd S.c 8 (drN S))).c 5), .int ((S.wc (upd S.c 8 (drN S))).c 6), .int ((S.wc (upd S.c 8 (drN S))).c 9), .int ((S.wc (upd S.c 8 (drN S))).c 10), .int ((S.wc (upd S.c 8 (drN S))).c 8), .int ((S.wc (upd S.c 8 (drN S))).c 13), .int ((S.wc (upd S.c 8 (drN S))).c 7), .int ((S.wc (upd S.c 8 (drN S))).c 11), .int ((S.wc (upd S.c 8 (drN S))).c 14), .ref (K 3 0), .ref (K 4 0), .ref (K 5 0), .double X.ne, .int (nI X.T), .int X.il, .double (shH S j u), .double (shV S j u), .long X.sm]) rfl dX7_shoot_181 ?_
        refine aw_re (P := fun μ1 => RM g K e0 (S.wc (upd S.c 8 (drN S))) (((X.wth 0).wh (shH S j u)).wv (shV S j u)) μ1 ∧ FrM K S.nA S.nQ μ μ1) ⟨hM5.setX (((X.wth 0).wh (shH S j u)).wv (shV S j u)) rfl rfl rfl, hF5.mpw (m0 (by decide))⟩ (fun μ6 hq => ?_)
        obtain ⟨hM6, hF6⟩ := hq
        refine aw_aload_n C dX7_shoot_184 rfl ?_
        refine aw_callV (n := 0) C hE (ci := 9) (q := (RX7, TX7, 22)) (k_X7_split B hM6 (hI.wc_ok rfl rfl hI.2.1 hI.2.2.1) (fun a b => ⟨(hI.2.2.2.2.2.2.2.1 a b).1, (hI.2.2.2.2.2.2.2.1 a b).2.1⟩) (sh_ok hI hj hu).1 (sh_ok hI hj hu).2) gX7_shoot_X7_split rfl ⟨rfl, rfl⟩ (by decide +kernel) ⟨by decide, by decide⟩ rfl rfl hM6.mo rfl (Nat.le_of_ble_eq_true rfl) dX7_shoot_185 ⟨by decide, by decide⟩ (fun v μ' hp => ?_)
        obtain ⟨rfl, hM7, hG7⟩ := hp
        have hF7 : FrM K S.nA S.nQ μ _ := hF6.tr hG7
        refine aw_st (st' := []) rfl ?_
        have znA : (spS (S.wc (upd S.c 8 (drN S))) (shH S j u) (shV S j u)).nA = S.nA := spS_nA (S.wc (upd S.c 8 (drN S))) (shH S j u) (shV S j u)
        have znQ : (spS (S.wc (upd S.c 8 (drN S))) (shH S j u) (shV S j u)).nQ = S.nQ := spS_nQ (S.wc (upd S.c 8 (drN S))) (shH S j u) (shV S j u)
        have zA : (spS (S.wc (upd S.c 8 (drN S))) (shH S j u) (shV S j u)).A = S.A := spS_A (S.wc (upd S.c 8 (drN S))) (shH S j u) (shV S j u)
        have zcr : (spS (S.wc (upd S.c 8 (drN S))) (shH S j u) (shV S j u)).cr = S.cr := spS_cr (S.wc (upd S.c 8 (drN S))) (shH S j u) (shV S j u)
        have z6 : (spS (S.wc (upd S.c 8 (drN S))) (shH S j u) (shV S j u)).c 6 = S.c 6 := spS_c _ _ _ (by decide)
        replace hM7 : RM g K e0 (spS (S.wc (upd S.c 8 (drN S))) (shH S j u) (shV S j u)) (((X.wth 0).wh (shH S j u)).wv (shV S j u)) _ := hM7
        replace hF7 : FrM K S.nA S.nQ μ _ := hF7
        generalize hS2 : spS (S.wc (upd S.c 8 (drN S))) (shH S j u) (shV S j u) = S2 at *
        have hj2 : j < S2.nA := by rw [znA]; exact hj
        have hu2 : u < S2.nQ := by rw [znQ]; exact hu
        refine aw_re (P := fun μ1 => RM g K e0 S2 (((X.wth 0).wh (shH S j u)).wv (shV S j u)) μ1 ∧ FrM K S.nA S.nQ μ μ1) ⟨hM7, hF7⟩ (fun μ8 hq => ?_)
        obtain ⟨hM8, hF8⟩ := hq
        have hfr := farF_ok ((sh_ok hI hj hu).1.up (by decide)) ((sh_ok hI hj hu).2.up (by decide))
        refine aw_aload_n C dX7_shoot_188 rfl ?_
        refine aw_get C f148 hM8.mo rfl dX7_shoot_189 ?_
        refine aw_aload_n C dX7_shoot_192 rfl ?_
        refine aw_get C f148 hM8.mo rfl dX7_shoot_193 ?_
        refine aw_dmul C hfr.1 dX7_shoot_196 ?_
        refine aw_aload_n C dX7_shoot_197 rfl ?_
        refine aw_get C f152 hM8.mo rfl dX7_shoot_198 ?_
        refine aw_aload_n C dX7_shoot_201 rfl ?_
        refine aw_get C f152 hM8.mo rfl dX7_shoot_202 ?_
        refine aw_dmul C hfr.2.1 dX7_shoot_205 ?_
        refine aw_dadd C hfr.2.2.1 dX7_shoot_206 ?_
        refine aw_eqd (y := farF (shH S j u) (shV S j u)) rfl ?_
        refine aw_dstore C dX7_shoot_207 (by decide) ?_
        refine aw_aload_n C dX7_shoot_209 rfl ?_
        refine aw_dload C dX7_shoot_210 rfl ?_
        refine aw_callV (n := 1) C hE (ci := 9) (q := (RX7, TX7, 22)) (k_X7_score (far := farF (shH S j u) (shV S j u)) B hM8 (hfr.2.2.2.nn (by decide))) gX7_shoot_X7_score rfl ⟨rfl, rfl⟩ (by decide +kernel) ⟨by decide, by decide⟩ rfl rfl hM8.mo rfl (Nat.le_of_ble_eq_true rfl) dX7_shoot_212 ⟨by decide, by decide⟩ (fun v μ' hp => ?_)
        obtain ⟨rfl, hm9⟩ := hp
        replace hm9 := hm9.symm
        subst hm9
        refine aw_st (show _ = [Value.int (shR S j u)] by rw [z6]; rfl) ?_
        refine aw_st (st' := [.int (shR S j u)]) rfl ?_
        refine aw_istore C dX7_shoot_215 (by decide) ?_
        have j233 : Aw p l e (rmOf 5 1 4 200) s m args below meth c Q s0.heap.size D 8 μ8 (0 + 1) (0 + 4) 233 [(0, .ref (K 0 0)), (1, .int (nI j)), (2, .int (nI k)), (3, .ref (K 8 j)), (4, .ref (K 9 u)), (5, .double (farF (shH S j u) (shV S j u))), (7, .int (shR S j u))] [.int (if shR S j u = 0 then 2 else 1), .int (nI k), .ref (K 10 u)] := by
          refine aw_iastE C (hM8.wh hu2) rfl ⟨hk, by decide⟩ dX7_shoot_233 ?_
          refine aw_re (P := fun μ1 => RM g K e0 (S2.wF (fu S2.F u (upd (S2.F u) k (if shR S j u = 0 then 2 else 1)))) (((X.wth 0).wh (shH S j u)).wv (shV S j u)) μ1 ∧ FrM K S.nA S.nQ μ μ1) ⟨hM8.setWh hu2 (upd (S2.F u) k (if shR S j u = 0 then 2 else 1)), hF8.mpw (m9 (by decide) hu)⟩ (fun μ9 hq => ?_)
          obtain ⟨hM9, hF9⟩ := hq
          refine aw_aload C dX7_shoot_234 rfl ?_
          refine aw_getN C hE f166 (hM9.xq hu2) rfl dX7_shoot_236 ?_
          refine aw_iload_n C dX7_shoot_239 rfl ?_
          refine aw_aload_n C dX7_shoot_240 rfl ?_
          refine aw_get C f148 hM9.mo rfl dX7_shoot_241 ?_
          refine aw_dastE C (hM9.hh hu2) rfl ⟨hk, by decide⟩ dX7_shoot_244 ?_
          refine aw_re (P := fun μ1 => RM g K e0 ((S2.wF (fu S2.F u (upd (S2.F u) k (if shR S j u = 0 then 2 else 1)))).wH (fu (S2.wF (fu S2.F u (upd (S2.F u) k (if shR S j u = 0 then 2 else 1)))).H u (vf_upd ((S2.wF (fu S2.F u (upd (S2.F u) k (if shR S j u = 0 then 2 else 1)))).H u) k (shH S j u)))) (((X.wth 0).wh (shH S j u)).wv (shV S j u)) μ1 ∧ FrM K S.nA S.nQ μ μ1) ⟨hM9.setHh hu2 (vf_upd ((S2.wF (fu S2.F u (upd (S2.F u) k (if shR S j u = 0 then 2 else 1)))).H u) k (shH S j u)), hF9.mpw (m9 (by decide) hu)⟩ (fun μ10 hq => ?_)
          obtain ⟨hM10, hF10⟩ := hq
          refine aw_aload C dX7_shoot_245 rfl ?_
          refine aw_getN C hE f177 (hM10.xq hu2) rfl dX7_shoot_247 ?_
          refine aw_iload_n C dX7_shoot_250 rfl ?_
          refine aw_aload_n C dX7_shoot_251 rfl ?_
          refine aw_get C f152 hM10.mo rfl dX7_shoot_252 ?_
          refine aw_dastE C (hM10.vv hu2) rfl ⟨hk, by decide⟩ dX7_shoot_255 ?_
          refine aw_re (P := fun μ1 => RM g K e0 (((S2.wF (fu S2.F u (upd (S2.F u) k (if shR S j u = 0 then 2 else 1)))).wH (fu (S2.wF (fu S2.F u (upd (S2.F u) k (if shR S j u = 0 then 2 else 1)))).H u (vf_upd ((S2.wF (fu S2.F u (upd (S2.F u) k (if shR S j u = 0 then 2 else 1)))).H u) k (shH S j u)))).wV (fu ((S2.wF (fu S2.F u (upd (S2.F u) k (if shR S j u = 0 then 2 else 1)))).wH (fu (S2.wF (fu S2.F u (upd (S2.F u) k (if shR S j u = 0 then 2 else 1)))).H u (vf_upd ((S2.wF (fu S2.F u (upd (S2.F u) k (if shR S j u = 0 then 2 else 1)))).H u) k (shH S j u)))).V u (vf_upd (((S2.wF (fu S2.F u (upd (S2.F u) k (if shR S j u = 0 then 2 else 1)))).wH (fu (S2.wF (fu S2.F u (upd (S2.F u) k (if shR S j u = 0 then 2 else 1)))).H u (vf_upd ((S2.wF (fu S2.F u (upd (S2.F u) k (if shR S j u = 0 then 2 else 1)))).H u) k (shH S j u)))).V u) k (shV S j u)))) (((X.wth 0).wh (shH S j u)).wv (shV S j u)) μ1 ∧ FrM K S.nA S.nQ μ μ1) ⟨hM10.setVv hu2 (vf_upd (((S2.wF (fu S2.F u (upd (S2.F u) k (if shR S j u = 0 then 2 else 1)))).wH (fu (S2.wF (fu S2.F u (upd (S2.F u) k (if shR S j u = 0 then 2 else 1)))).H u (vf_upd ((S2.wF (fu S2.F u (upd (S2.F u) k (if shR S j u = 0 then 2 else 1)))).H u) k (shH S j u)))).V u) k (shV S j u)), hF10.mpw (m9 (by decide) hu)⟩ (fun μ11 hq => ?_)
          obtain ⟨hM11, hF11⟩ := hq
          obtain ⟨S3, hS3⟩ : ∃ z, z = ldS S2 u k (shH S j u) (shV S j u) (shR S j u) := ⟨_, rfl⟩
          have hM9 : RM g K e0 S3 (((X.wth 0).wh (shH S j u)).wv (shV S j u)) μ11 := by rw [hS3]; exact hM11
          have h3n : S3.nA = S.nA := by rw [hS3]; exact znA
          have h3c : S3.cr = S.cr := by rw [hS3]; exact zcr
          have hj3 : j < S3.nA := by rw [h3n]; exact hj
          have hcr : CrOk (S3.cr j) := by rw [h3c]; exact (hI.2.2.2.1 j hj).2.1
          refine aw_aload_n C dX7_shoot_256 rfl ?_
          refine aw_ldcf C k211 dX7_shoot_257 ?_
          refine aw_aload_n C dX7_shoot_259 rfl ?_
          refine aw_getN C hE f103 (hM9.xa hj3) rfl dX7_shoot_260 ?_
          refine aw_ldcf C k212 dX7_shoot_263 ?_
          refine aw_fadd C (crNx_n hcr) dX7_shoot_265 ?_
          refine aw_callS (n := 2) C hE (k_J9_min_e70c8 B (by decide +kernel) (mn_ok hcr).1) gX7_shoot_J9_min_e70c8 rfl ⟨rfl, rfl⟩ (by decide +kernel) ⟨by decide, by decide⟩ rfl rfl (Nat.le_of_ble_eq_true rfl) dX7_shoot_266 ⟨by decide, by decide⟩ (fun v μ' hp => ?_)
          obtain ⟨rfl, hm9⟩ := hp
          replace hm9 := hm9.symm
          subst hm9
          refine aw_st (show _ = [Value.float (crNx (S3.cr j)), Value.ref (K 8 j)] by rw [← (mn_ok hcr).2]; rfl) ?_
          refine aw_st (st' := [.float (crNx (S3.cr j)), .ref (K 8 j)]) rfl ?_
          refine aw_putNE C hE f103 ftX5 (ty := .float) (by decide +kernel) rfl rfl (hM9.xa hj3) (Nat.le_of_ble_eq_true rfl) (fs' := [.int (S3.A j 0), .int (S3.A j 1), .int (S3.A j 2), .int (S3.A j 3), .float (crNx (S3.cr j)), .int (S3.A j 5), .int (S3.A j 6), .int (S3.A j 7), .int (S3.A j 8), .int (S3.A j 9), .int (S3.A j 10), .int (S3.A j 11)]) rfl dX7_shoot_269 ?_
          refine aw_aload_n C dX7_shoot_272 rfl ?_
          refine aw_dup C rfl dX7_shoot_273 ?_
          refine aw_getN C hE f217 mp_s rfl dX7_shoot_274 ?_
          refine aw_iconst C (v := 1) (by decide) dX7_shoot_277 ?_
          refine aw_iadd C dX7_shoot_278 ?_
          refine aw_putNE C hE f217 ftX5 (ty := .int) (by decide +kernel) rfl rfl mp_s (Nat.le_of_ble_eq_true rfl) (fs' := [.int (S3.A j 0), .int (S3.A j 1), .int (S3.A j 2), .int (S3.A j 3), .float (crNx (S3.cr j)), .int (S3.A j 5), .int ((S3.A j 6) + 1), .int (S3.A j 7), .int (S3.A j 8), .int (S3.A j 9), .int (S3.A j 10), .int (S3.A j 11)]) rfl dX7_shoot_279 ?_
          refine aw_mu mp_mp ?_
          refine aw_aload_n C dX7_shoot_282 rfl ?_
          refine aw_dup C rfl dX7_shoot_283 ?_
          refine aw_getN C hE f220 mp_s rfl dX7_shoot_284 ?_
          refine aw_iload C dX7_shoot_287 rfl ?_
          refine aw_iadd C dX7_shoot_289 ?_
          refine aw_putNE C hE f220 ftX5 (ty := .int) (by decide +kernel) rfl rfl mp_s (Nat.le_of_ble_eq_true rfl) (fs' := [.int (S3.A j 0), .int (S3.A j 1), .int (S3.A j 2), .int (S3.A j 3), .float (crNx (S3.cr j)), .int (S3.A j 5), .int ((S3.A j 6) + 1), .int ((S3.A j 7) + (shR S j u)), .int (S3.A j 8), .int (S3.A j 9), .int (S3.A j 10), .int (S3.A j 11)]) rfl dX7_shoot_290 ?_
          refine aw_mu mp_mp ?_
          refine aw_aload_n C dX7_shoot_293 rfl ?_
          refine aw_dup C rfl dX7_shoot_294 ?_
          refine aw_getN C hE f223 mp_s rfl dX7_shoot_295 ?_
          refine aw_iload C dX7_shoot_298 rfl ?_
          refine aw_iadd C dX7_shoot_300 ?_
          refine aw_putNE C hE f223 ftX5 (ty := .int) (by decide +kernel) rfl rfl mp_s (Nat.le_of_ble_eq_true rfl) (fs' := [.int (S3.A j 0), .int (S3.A j 1), .int (S3.A j 2), .int (S3.A j 3), .float (crNx (S3.cr j)), .int (S3.A j 5), .int ((S3.A j 6) + 1), .int ((S3.A j 7) + (shR S j u)), .int (S3.A j 8), .int ((S3.A j 9) + (shR S j u)), .int (S3.A j 10), .int (S3.A j 11)]) rfl dX7_shoot_301 ?_
          refine aw_mu mp_mp ?_
          refine aw_aload_n C dX7_shoot_304 rfl ?_
          refine aw_dup C rfl dX7_shoot_305 ?_
          refine aw_getN C hE f226 mp_s rfl dX7_shoot_306 ?_
          refine aw_iconst C (v := 1) (by decide) dX7_shoot_309 ?_
          refine aw_iadd C dX7_shoot_310 ?_
          refine aw_putNE C hE f226 ftX5 (ty := .int) (by decide +kernel) rfl rfl mp_s (Nat.le_of_ble_eq_true rfl) (fs' := [.int (S3.A j 0), .int (S3.A j 1), .int (S3.A j 2), .int (S3.A j 3), .float (crNx (S3.cr j)), .int (S3.A j 5), .int ((S3.A j 6) + 1), .int ((S3.A j 7) + (shR S j u)), .int (S3.A j 8), .int ((S3.A j 9) + (shR S j u)), .int ((S3.A j 10) + 1), .int (S3.A j 11)]) rfl dX7_shoot_311 ?_
          refine aw_mu mp_mp ?_
          have j332 : Aw p l e (rmOf 5 1 4 200) s m args below meth c Q s0.heap.size D 8 (mp μ11 (K 8 j) (.inr (7, [.int (S3.A j 0), .int (S3.A j 1), .int (S3.A j 2), .int (S3.A j 3), .float (crNx (S3.cr j)), .int (S3.A j 5), .int ((S3.A j 6) + 1), .int ((S3.A j 7) + (shR S j u)), .int (S3.A j 8), .int ((S3.A j 9) + (shR S j u)), .int ((S3.A j 10) + 1), .int (S3.A j 11)]))) (0 + 1) (0 + 4) 332 [(0, .ref (K 0 0)), (1, .int (nI j)), (2, .int (nI k)), (3, .ref (K 8 j)), (4, .ref (K 9 u)), (5, .double (farF (shH S j u) (shV S j u))), (7, .int (shR S j u))] [.int (cntA (S3.A j) (shR S j u) 11), .ref (K 8 j)] := by
            refine aw_putNE C hE f229 ftX5 (ty := .int) (by decide +kernel) rfl rfl mp_s (Nat.le_of_ble_eq_true rfl) (fs' := [.int (S3.A j 0), .int (S3.A j 1), .int (S3.A j 2), .int (S3.A j 3), .float (crNx (S3.cr j)), .int (S3.A j 5), .int ((S3.A j 6) + 1), .int ((S3.A j 7) + (shR S j u)), .int (S3.A j 8), .int ((S3.A j 9) + (shR S j u)), .int ((S3.A j 10) + 1), .int (cntA (S3.A j) (shR S j u) 11)]) rfl dX7_shoot_332 ?_
            refine aw_mu mp_mp ?_
            refine aw_re (P := fun μ1 => RM g K e0 ((S3.wA (fu S3.A j (cntA (S3.A j) (shR S j u)))).wcr (fu S3.cr j (crNx (S3.cr j)))) (((X.wth 0).wh (shH S j u)).wv (shV S j u)) μ1 ∧ FrM K S.nA S.nQ μ μ1) ⟨hM9.setXa2 hj3 rfl, hF11.mpw (m8 hj)⟩ (fun μ12 hq => ?_)
            obtain ⟨hM12, hF12⟩ := hq
            obtain ⟨S4, hS4⟩ : ∃ z, z = (S3.wA (fu S3.A j (cntA (S3.A j) (shR S j u)))).wcr (fu S3.cr j (crNx (S3.cr j))) := ⟨_, rfl⟩
            have hM10 : RM g K e0 S4 (((X.wth 0).wh (shH S j u)).wv (shV S j u)) μ12 := by rw [hS4]; exact hM12
            refine aw_aload_n C dX7_shoot_335 rfl ?_
            refine aw_dup C rfl dX7_shoot_336 ?_
            refine aw_get C f232 hM10.mo rfl dX7_shoot_337 ?_
            refine aw_iconst C (v := 1) (by decide) dX7_shoot_340 ?_
            refine aw_iadd C dX7_shoot_341 ?_
            refine aw_putE C f232 ftX7 (ty := .int) (by decide +kernel) rfl rfl hM10.mo (Nat.le_of_ble_eq_true rfl) (fs' := [.int 0, .ref (K 1 0), .ref (K 2 0), .int (S4.c 4), .int (S4.c 5), .int (S4.c 6), .int ((S4.c 9) + 1), .int (S4.c 10), .int (S4.c 8), .int (S4.c 13), .int (S4.c 7), .int (S4.c 11), .int (S4.c 14), .ref (K 3 0), .ref (K 4 0), .ref (K 5 0), .double X.ne, .int (nI X.T), .int X.il, .double (shH S j u), .double (shV S j u), .long X.sm]) rfl dX7_shoot_342 ?_
            refine aw_re (P := fun μ1 => RM g K e0 (S4.wc (upd S4.c 9 ((S4.c 9) + 1))) (((X.wth 0).wh (shH S j u)).wv (shV S j u)) μ1 ∧ FrM K S.nA S.nQ μ μ1) ⟨hM10.setMo (upd S4.c 9 ((S4.c 9) + 1)) (((X.wth 0).wh (shH S j u)).wv (shV S j u)) rfl rfl rfl, hF12.mpw (m0 (by decide))⟩ (fun μ13 hq => ?_)
            obtain ⟨hM13, hF13⟩ := hq
            obtain ⟨S5, hS5⟩ : ∃ z, z = shS0 S j u k := ⟨_, rfl⟩
            have hM11 : RM g K e0 S5 (((X.wth 0).wh (shH S j u)).wv (shV S j u)) μ13 := by
              rw [hS5]
              unfold shS0
              rw [hS2, ← hS3]
              have h9 := hM13
              rw [hS4] at h9
              exact h9
            obtain ⟨n5, q5, t5, l5⟩ := shS0_n S j u k
            have hI5 := Iv_shS0 hI hj hu k
            rw [← hS5] at n5 q5 t5 l5 hI5
            have hR5 : MR S5 (((X.wth 0).wh (shH S j u)).wv (shV S j u)) b := by unfold MR; rw [t5, l5]; exact hR
            refine aw_aload_n C dX7_shoot_345 rfl ?_
            refine aw_callV (n := 0) C hE (ci := 9) (q := (RX7, TX7, 22)) (k_X7_isOn B hM11 hI5 hR5) gX7_shoot_X7_isOn rfl ⟨rfl, rfl⟩ (by decide +kernel) ⟨by decide, by decide⟩ rfl rfl hM11.mo rfl (Nat.le_of_ble_eq_true rfl) dX7_shoot_346 ⟨by decide, by decide⟩ (fun v μ' hp => ?_)
            obtain ⟨rfl, hm9⟩ := hp
            replace hm9 := hm9.symm
            subst hm9
            refine aw_st (st' := [.int (if S5.t 0 = 0 then 0 else 1)]) rfl ?_
            by_cases bo : S5.t 0 = 0
            · refine aw_eqi (y := 0) (if_pos bo) ?_
              refine aw_if_eq C (tgt := 360) dX7_shoot_349 (by decide) (fun _ => ?_) (fun c9 => absurd (by decide) c9)
              refine aw_iload C dX7_shoot_360 rfl ?_
              refine aw_iret C hQe ?_ (by omega) (by omega) dX7_shoot_362
              have hc : shC S (nI j) (nI k) = 0 := shC_0 b7 hb2 bc
              have e9 : ix (S.A j 5) = u := by rw [huq]; exact eu6
              rw [hc, ej6, ek6, e9]
              have e8 : shS S j u k = shS0 S j u k := if_pos (by rw [← t5]; exact bo)
              rw [e8, ← hS5]
              exact ⟨⟨_, rfl, fun _ => rfl⟩, ⟨((X.wth 0).wh (shH S j u)).wv (shV S j u), hM11, hR5.up (Nat.le_succ b), rfl⟩, hF13⟩
            · refine aw_eqi (y := 1) (if_neg bo) ?_
              refine aw_if_eq C (tgt := 360) dX7_shoot_349 (by decide) (fun c9 => absurd c9 (by decide)) (fun _ => ?_)
              refine aw_aload_n C dX7_shoot_352 rfl ?_
              refine aw_iload C dX7_shoot_353 rfl ?_
              refine aw_dload C dX7_shoot_355 rfl ?_
              refine aw_callV (n := 2) C hE (ci := 9) (q := (RX7, TX7, 22)) (k_X7_count (sc := shR S j u) (d := farF (shH S j u) (shV S j u)) B hM11 hI5 hR5 (hfr.2.2.2.nn (by decide)) bo hb) gX7_shoot_X7_count rfl ⟨rfl, rfl⟩ (by decide +kernel) ⟨by decide, by decide⟩ rfl rfl hM11.mo rfl (Nat.le_of_ble_eq_true rfl) dX7_shoot_357 ⟨by decide, by decide⟩ (fun v μ' hp => ?_)
              obtain ⟨rfl, ⟨X8, hM12, hR8, hth8⟩, hG14⟩ := hp
              rw [n5, q5] at hG14
              have hF14 : FrM K S.nA S.nQ μ _ := hF13.tr hG14
              refine aw_st (st' := []) rfl ?_
              refine aw_iload C dX7_shoot_360 rfl ?_
              refine aw_iret C hQe ?_ (by omega) (by omega) dX7_shoot_362
              have hc : shC S (nI j) (nI k) = 0 := shC_0 b7 hb2 bc
              have e9 : ix (S.A j 5) = u := by rw [huq]; exact eu6
              rw [hc, ej6, ek6, e9]
              have e8 : shS S j u k = cmS (shS0 S j u k) (shR S j u) (farF (shH S j u) (shV S j u)) := if_neg (by rw [← t5]; exact bo)
              rw [e8, ← hS5]
              exact ⟨⟨_, rfl, fun _ => rfl⟩, ⟨X8, hM12, hR8, hth8⟩, hF14⟩
          refine aw_aload_n C dX7_shoot_314 rfl ?_
          refine aw_dup C rfl dX7_shoot_315 ?_
          refine aw_getN C hE f229 mp_s rfl dX7_shoot_316 ?_
          refine aw_iload C dX7_shoot_319 rfl ?_
          refine aw_bipush C (v := 10) (by decide) dX7_shoot_321 ?_
          refine aw_icmp_ne C (tgt := 330) dX7_shoot_323 (by decide) (fun c_323 => ?_) (fun c_323 => ?_)
          · refine aw_iconst C (v := 0) (by decide) dX7_shoot_330 ?_
            refine aw_iadd C dX7_shoot_331 ?_
            refine aw_eqi (y := cntA (S3.A j) (shR S j u) 11) (by show _ = (if shR S j u = 10 then S3.A j 11 + 1 else S3.A j 11); rw [if_neg c_323]; exact Int32.add_zero _) ?_
            refine aw_lv (lv' := [(0, .ref (K 0 0)), (1, .int (nI j)), (2, .int (nI k)), (3, .ref (K 8 j)), (4, .ref (K 9 u)), (5, .double (farF (shH S j u) (shV S j u))), (7, .int (shR S j u))]) ⟨rfl, rfl, rfl, rfl, rfl, rfl, rfl, trivial⟩ ?_
            exact j332
          · refine aw_iconst C (v := 1) (by decide) dX7_shoot_326 ?_
            refine aw_goto C (tgt := 331) dX7_shoot_327 (by decide) ?_
            refine aw_iadd C dX7_shoot_331 ?_
            refine aw_eqi (y := cntA (S3.A j) (shR S j u) 11) (by show _ = (if shR S j u = 10 then S3.A j 11 + 1 else S3.A j 11); rw [if_pos c_323]) ?_
            refine aw_lv (lv' := [(0, .ref (K 0 0)), (1, .int (nI j)), (2, .int (nI k)), (3, .ref (K 8 j)), (4, .ref (K 9 u)), (5, .double (farF (shH S j u) (shV S j u))), (7, .int (shR S j u))]) ⟨rfl, rfl, rfl, rfl, rfl, rfl, rfl, trivial⟩ ?_
            exact j332
        refine aw_aload C dX7_shoot_217 rfl ?_
        refine aw_getN C hE f163 (hM8.xq hu2) rfl dX7_shoot_219 ?_
        refine aw_iload_n C dX7_shoot_222 rfl ?_
        refine aw_iload C dX7_shoot_223 rfl ?_
        refine aw_if_ne C (tgt := 232) dX7_shoot_225 (by decide) (fun c_225 => ?_) (fun c_225 => ?_)
        · refine aw_iconst C (v := 1) (by decide) dX7_shoot_232 ?_
          refine aw_eqi (y := if shR S j u = 0 then 2 else 1) (if_neg c_225).symm ?_
          refine aw_lv (lv' := [(0, .ref (K 0 0)), (1, .int (nI j)), (2, .int (nI k)), (3, .ref (K 8 j)), (4, .ref (K 9 u)), (5, .double (farF (shH S j u) (shV S j u))), (7, .int (shR S j u))]) ⟨rfl, rfl, rfl, rfl, rfl, rfl, rfl, trivial⟩ ?_
          exact j233
        · refine aw_iconst C (v := 2) (by decide) dX7_shoot_228 ?_
          refine aw_goto C (tgt := 233) dX7_shoot_229 (by decide) ?_
          refine aw_eqi (y := if shR S j u = 0 then 2 else 1) (if_pos c_225).symm ?_
          refine aw_lv (lv' := [(0, .ref (K 0 0)), (1, .int (nI j)), (2, .int (nI k)), (3, .ref (K 8 j)), (4, .ref (K 9 u)), (5, .double (farF (shH S j u) (shV S j u))), (7, .int (shR S j u))]) ⟨rfl, rfl, rfl, rfl, rfl, rfl, rfl, trivial⟩ ?_
          exact j233
      · refine aw_eqi (y := 0) (if_neg bc) ?_
        refine aw_if_ne C (tgt := 44) dX7_shoot_35 (by decide) (fun c9 => absurd (by decide) c9) (fun _ => ?_)
        refine aw_aload_n C dX7_shoot_38 rfl ?_
        refine aw_iconst C (v := 2) (by decide) dX7_shoot_39 ?_
        refine aw_callV (n := 1) C hE (ci := 9) (q := (RX7, TX7, 22)) (k_X7_refuse (x := 2) B hM1) gX7_shoot_X7_refuse rfl ⟨rfl, rfl⟩ (by decide +kernel) ⟨by decide, by decide⟩ rfl rfl hM1.mo rfl (Nat.le_of_ble_eq_true rfl) dX7_shoot_40 ⟨by decide, by decide⟩ (fun v μ' hp => ?_)
        obtain ⟨rfl, hM2, hG2⟩ := hp
        have hF2 : FrM K S.nA S.nQ μ _ := hF1.tr hG2
        refine aw_st (st' := [.int 0]) rfl ?_
        refine aw_iret C hQe ?_ (by omega) (by omega) dX7_shoot_43
        have ej6 : ix (nI j) = j := ix_nI hj (by have := hI.A6; omega)
        have ek6 : ix (nI k) = k := ix_nI hk (by decide)
        have hc : shC S (nI j) (nI k) = 2 := shC_2 b7 hb2 bc
        rw [hc]
        exact ⟨⟨_, rfl, fun q => absurd q (by decide)⟩, ⟨(X.wth 0).wth 2, hM2, (hR.up (Nat.le_succ b)), rfl⟩, hF2⟩
    · refine aw_eqi (y := 0) (if_neg b17) ?_
      refine aw_if_ne C (tgt := 29) dX7_shoot_20 (by decide) (fun c9 => absurd (by decide) c9) (fun _ => ?_)
      refine aw_aload_n C dX7_shoot_23 rfl ?_
      refine aw_iconst C (v := 1) (by decide) dX7_shoot_24 ?_
      refine aw_callV (n := 1) C hE (ci := 9) (q := (RX7, TX7, 22)) (k_X7_refuse (x := 1) B hM1) gX7_shoot_X7_refuse rfl ⟨rfl, rfl⟩ (by decide +kernel) ⟨by decide, by decide⟩ rfl rfl hM1.mo rfl (Nat.le_of_ble_eq_true rfl) dX7_shoot_25 ⟨by decide, by decide⟩ (fun v μ' hp => ?_)
      obtain ⟨rfl, hM2, hG2⟩ := hp
      have hF2 : FrM K S.nA S.nQ μ _ := hF1.tr hG2
      refine aw_st (st' := [.int 0]) rfl ?_
      refine aw_iret C hQe ?_ (by omega) (by omega) dX7_shoot_28
      have hc : shC S x y = 1 := by simp [shC, b7, b17, hy]
      rw [hc]
      exact ⟨⟨_, rfl, fun q => absurd q (by decide)⟩, ⟨(X.wth 0).wth 1, hM2, (hR.up (Nat.le_succ b)), rfl⟩, hF2⟩
  · refine aw_eqi (y := 0) (if_neg b7) ?_
    refine aw_if_eq C (tgt := 23) dX7_shoot_10 (by decide) (fun _ => ?_) (fun c9 => absurd (by decide) c9)
    refine aw_aload_n C dX7_shoot_23 rfl ?_
    refine aw_iconst C (v := 1) (by decide) dX7_shoot_24 ?_
    refine aw_callV (n := 1) C hE (ci := 9) (q := (RX7, TX7, 22)) (k_X7_refuse (x := 1) B hM1) gX7_shoot_X7_refuse rfl ⟨rfl, rfl⟩ (by decide +kernel) ⟨by decide, by decide⟩ rfl rfl hM1.mo rfl (Nat.le_of_ble_eq_true rfl) dX7_shoot_25 ⟨by decide, by decide⟩ (fun v μ' hp => ?_)
    obtain ⟨rfl, hM2, hG2⟩ := hp
    have hF2 : FrM K S.nA S.nQ μ _ := hF1.tr hG2
    refine aw_st (st' := [.int 0]) rfl ?_
    refine aw_iret C hQe ?_ (by omega) (by omega) dX7_shoot_28
    have hc : shC S x y = 1 := by simp [shC, b7, hy]
    rw [hc]
    exact ⟨⟨_, rfl, fun q => absurd q (by decide)⟩, ⟨(X.wth 0).wth 1, hM2, (hR.up (Nat.le_succ b)), rfl⟩, hF2⟩
end KM5
