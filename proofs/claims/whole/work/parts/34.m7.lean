/-! ===== ArrowFieldModel: how far (one flight against a flight for each distance) ===== -/
theorem i2d_mono : ∀ {b a : Nat}, a ≤ b → b ≤ 90 → dk (FP.i2d (nI a)) ≤ dk (FP.i2d (nI b)) := by
  have key : ∀ a, a < 90 → dk (FP.i2d (nI a)) ≤ dk (FP.i2d (nI (a + 1))) := by decide +kernel
  intro b
  induction b with
  | zero => intro a h _; rw [show a = 0 by omega]; exact Int.le_refl _
  | succ b ih =>
    intro a h hb
    rcases Nat.lt_or_eq_of_le h with q | q
    · exact Int.le_trans (ih (Nat.le_of_lt_succ q) (by omega)) (key b (by omega))
    · rw [q]; exact Int.le_refl _
theorem i2d_127 : (4638637247447433216 : UInt64) = FP.i2d 127 := by decide +kernel
theorem i2d_0 : dk FP.dconst0 < dk (FP.i2d (nI 10)) := by decide +kernel
section KM7
variable {l : Launch} {s0 : State} {D : va_G} {g : Nat → ClassId}
set_option maxRecDepth 100000 in
set_option maxHeartbeats 4000000 in
theorem k_X7_reach (B : Base s0) {μ : mu} {K : Nat → Nat → Nat} {e0 : Nat} {S : SS} {X : XS} (hM : RM g K e0 S X μ) (hI : Iv S) {b : Nat} (hR : MR S X b) {x : Int32} : Ct l yX7_reach wsX7_reach (rmOf 4 0 0 180) s0 D (tyL g) [.ref (K 0 0), .int x] μ 0 0 (fun v9 μ' => (∃ r : Int32, v9 = some (.int r) ∧ (rdC S x = 0 → r = reF S (ix x))) ∧ PMx g K e0 S S (rdC S x) b μ μ') := by
  refine Ct.of (cc := cX7_reach) (own := RX7) (maxL := 13) (ret := (some .int)) (by decide) rfl rfl (Nat.le_of_ble_eq_true rfl) ?_
  intro p e s m args below meth c Q C hE hnm hQe
  have in_RX7 : ∀ w ∈ u_ws RX7 TX7 22, w ∈ wsX7_reach := by decide +kernel
  have in_RX5 : ∀ w ∈ u_ws RX5 TX5 12, w ∈ wsX7_reach := by decide +kernel
  have f39 : FL wsX7_reach RX7 39 9 "ArrowFieldModel" RX7 TX7 22 0 := ⟨in_RX7, rfl, by decide, by decide +kernel, Or.inl rfl⟩
  have f10 : FL wsX7_reach RX7 10 9 "ArrowFieldModel" RX7 TX7 22 1 := ⟨in_RX7, rfl, by decide, by decide +kernel, Or.inl rfl⟩
  have k283 : Cond.constantDouble RX7 283 (4638637247447433216) ∈ wsX7_reach := by decide +kernel
  have k142 : Cond.constantDouble RX7 142 (4647714815446351872) ∈ wsX7_reach := by decide +kernel
  have f100 : FN s0 wsX7_reach RX7 100 7 "ArrowFieldModel$Archer" RX5 TX5 12 3 "ArrowFieldModel" := ⟨in_RX5, rfl, by decide, B.fnRX7_100, rfl⟩
  have k144 : Cond.constantDouble RX7 144 (4620693217682128896) ∈ wsX7_reach := by decide +kernel
  have k155 : Cond.constantDouble RX7 155 (4625196817309499392) ∈ wsX7_reach := by decide +kernel
  have k146 : Cond.constantDouble RX7 146 (4643211215818981376) ∈ wsX7_reach := by decide +kernel
  have k157 : Cond.constantDouble RX7 157 (4603804719079489536) ∈ wsX7_reach := by decide +kernel
  refine aw_aload_n C dX7_reach_0 rfl ?_
  refine aw_iconst C (v := 0) (by decide) dX7_reach_1 ?_
  refine aw_putE C f39 ftX7 (ty := .int) (by decide +kernel) rfl rfl hM.mo (Nat.le_of_ble_eq_true rfl) (fs' := [.int 0, .ref (K 1 0), .ref (K 2 0), .int (S.c 4), .int (S.c 5), .int (S.c 6), .int (S.c 9), .int (S.c 10), .int (S.c 8), .int (S.c 13), .int (S.c 7), .int (S.c 11), .int (S.c 14), .ref (K 3 0), .ref (K 4 0), .ref (K 5 0), .double X.ne, .int (nI X.T), .int X.il, .double X.h, .double X.v, .long X.sm]) rfl dX7_reach_2 ?_
  refine aw_re (P := fun μ1 => RM g K e0 S (X.wth 0) μ1 ∧ FrM K S.nA S.nQ μ μ1) ⟨hM.setX (X.wth 0) rfl rfl rfl, (FrM.rf : FrM K S.nA S.nQ μ μ).mpw (m0 (by decide))⟩ (fun μ1 hq => ?_)
  obtain ⟨hM1, hF1⟩ := hq
  refine aw_aload_n C dX7_reach_5 rfl ?_
  refine aw_iload_n C dX7_reach_6 rfl ?_
  refine aw_callV (n := 1) C hE (ci := 9) (q := (RX7, TX7, 22)) (k_X7_isArcher (x := x) B hM1 hI) gX7_reach_X7_isArcher rfl ⟨rfl, rfl⟩ (by decide +kernel) ⟨by decide, by decide⟩ rfl rfl hM1.mo rfl (Nat.le_of_ble_eq_true rfl) dX7_reach_7 ⟨by decide, by decide⟩ (fun v μ' hp => ?_)
  obtain ⟨rfl, hm9⟩ := hp
  replace hm9 := hm9.symm
  subst hm9
  refine aw_st (st' := [.int (if inb x S.nA = true then 1 else 0)]) rfl ?_
  by_cases b7 : inb x S.nA = true
  · refine aw_eqi (y := 1) (if_pos b7) ?_
    refine aw_if_ne C (tgt := 19) dX7_reach_10 (by decide) (fun _ => ?_) (fun c9 => absurd c9 (by decide))
    obtain ⟨j, hj, rfl⟩ := inb_of b7 (by have := hI.A6; omega)
    refine aw_aload_n C dX7_reach_19 rfl ?_
    refine aw_iload_n C dX7_reach_20 rfl ?_
    refine aw_callV (n := 1) C hE (ci := 9) (q := (RX7, TX7, 22)) (k_X7_isReady B hM1 hI hj) gX7_reach_X7_isReady rfl ⟨rfl, rfl⟩ (by decide +kernel) ⟨by decide, by decide⟩ rfl rfl hM1.mo rfl (Nat.le_of_ble_eq_true rfl) dX7_reach_21 ⟨by decide, by decide⟩ (fun v μ' hp => ?_)
    obtain ⟨rfl, hm9⟩ := hp
    replace hm9 := hm9.symm
    subst hm9
    refine aw_st (st' := [.int (if S.A j 5 = -1 then 0 else 1)]) rfl ?_
    by_cases bd : S.A j 5 = -1
    · refine aw_eqi (y := 0) (if_pos bd) ?_
      refine aw_if_ne C (tgt := 33) dX7_reach_24 (by decide) (fun c9 => absurd (by decide) c9) (fun _ => ?_)
      refine aw_aload_n C dX7_reach_27 rfl ?_
      refine aw_iconst C (v := 2) (by decide) dX7_reach_28 ?_
      refine aw_callV (n := 1) C hE (ci := 9) (q := (RX7, TX7, 22)) (k_X7_refuse (x := 2) B hM1) gX7_reach_X7_refuse rfl ⟨rfl, rfl⟩ (by decide +kernel) ⟨by decide, by decide⟩ rfl rfl hM1.mo rfl (Nat.le_of_ble_eq_true rfl) dX7_reach_29 ⟨by decide, by decide⟩ (fun v μ' hp => ?_)
      obtain ⟨rfl, hM2, hG2⟩ := hp
      have hF2 : FrM K S.nA S.nQ μ _ := hF1.tr hG2
      refine aw_st (st' := [.int 0]) rfl ?_
      refine aw_iret C hQe ?_ (by omega) (by omega) dX7_reach_32
      have ej6 : ix (nI j) = j := ix_nI hj (by have := hI.A6; omega)
      have hc : rdC S (nI j) = 2 := by simp [rdC, b7, bd, ej6]
      rw [hc]
      exact ⟨⟨_, rfl, fun q => absurd q (by decide)⟩, ⟨(X.wth 0).wth 2, hM2, hR, rfl⟩, hF2⟩
    · refine aw_eqi (y := 1) (if_neg bd) ?_
      refine aw_if_ne C (tgt := 33) dX7_reach_24 (by decide) (fun _ => ?_) (fun c9 => absurd c9 (by decide))
      obtain ⟨u, hu, huq⟩ := (hI.2.2.2.1 j hj).2.2.resolve_left bd
      have eu6 : ix (nI u) = u := ix_nI hu (by have := hI.Q6; omega)
      obtain ⟨-, -, -, -, -, -, hE9, -⟩ := spd_ok (hI.2.2.2.1 j hj).1 (hI.2.2.2.2.2.1 u hu) (hI.2.2.2.1 j hj).2.1
      obtain ⟨u1, u2, u3, u4, -⟩ := up_ok hE9 127 (S.A j 3)
      refine aw_aload_n C dX7_reach_33 rfl ?_
      refine aw_get C f10 hM1.mo rfl dX7_reach_34 ?_
      refine aw_iload_n C dX7_reach_37 rfl ?_
      refine aw_callV (n := 1) C hE (ci := 1) (q := (RJx4a65c, TJx4a65c, 3)) (k_getA B hM1 hI hj) gX7_reach_Jx4a65c_get_915e3 rfl ⟨rfl, rfl⟩ (by decide +kernel) ⟨by decide, by decide⟩ rfl rfl hM1.aL rfl (Nat.le_of_ble_eq_true rfl) dX7_reach_38 ⟨by decide, by decide⟩ (fun v μ' hp => ?_)
      obtain ⟨rfl, hm9⟩ := hp
      replace hm9 := hm9.symm
      subst hm9
      refine aw_st (st' := [.ref (K 8 j)]) rfl ?_
      refine aw_cast C (ci := 7) (by decide +kernel) (va_Nw.warmC hE.1 B.caXa) rfl (hM1.xa hj) dX7_reach_41 ?_
      refine aw_astore_n C dX7_reach_44 (by decide) ?_
      refine aw_aload_n C dX7_reach_45 rfl ?_
      refine aw_aload_n C dX7_reach_46 rfl ?_
      refine aw_callV (n := 1) C hE (ci := 9) (q := (RX7, TX7, 22)) (k_X7_speedNow B hM1 hI hj) gX7_reach_X7_speedNow rfl ⟨rfl, rfl⟩ (by decide +kernel) ⟨by decide, by decide⟩ rfl rfl hM1.mo rfl (Nat.le_of_ble_eq_true rfl) dX7_reach_47 ⟨by decide, by decide⟩ (fun v μ' hp => ?_)
      obtain ⟨rfl, hm9⟩ := hp
      replace hm9 := hm9.symm
      subst hm9
      refine aw_st (st' := [.double (sdF S j)]) rfl ?_
      refine aw_eqd (y := spd (S.A j 0) (S.q u 0) (S.cr j)) (by unfold sdF; rw [if_neg bd, huq, eu6]) ?_
      refine aw_dstore_n C dX7_reach_50 (by decide) ?_
      refine aw_dload_n C dX7_reach_51 rfl ?_
      refine aw_ldc2d C k283 dX7_reach_52 ?_
      refine aw_eqd (y := FP.i2d 127) i2d_127 ?_
      refine aw_dmul C u1 dX7_reach_55 ?_
      refine aw_ldc2d C k142 dX7_reach_56 ?_
      refine aw_ddiv C u2 dX7_reach_59 ?_
      refine aw_aload_n C dX7_reach_60 rfl ?_
      refine aw_getN C hE f100 (hM1.xa hj) rfl dX7_reach_61 ?_
      refine aw_i2d C dX7_reach_64 ?_
      refine aw_ldc2d C k144 dX7_reach_65 ?_
      refine aw_ddiv C u3 dX7_reach_68 ?_
      refine aw_dadd C u4 dX7_reach_69 ?_
      refine aw_dstore C dX7_reach_70 (by decide) ?_
      refine aw_dconst0 C dX7_reach_72 ?_
      refine aw_dstore C dX7_reach_73 (by decide) ?_
      refine aw_dconst0 C dX7_reach_75 ?_
      refine aw_dstore C dX7_reach_76 (by decide) ?_
      refine aw_iconst C (v := (-1)) (by decide) dX7_reach_78 ?_
      refine aw_istore C dX7_reach_79 (by decide) ?_
      refine aw_bipush C (v := 10) (by decide) dX7_reach_81 ?_
      refine aw_istore C dX7_reach_83 (by decide) ?_
      refine aw_lv (lv' := [(0, .ref (K 0 0)), (1, .int (nI j)), (2, .ref (K 8 j)), (3, .double ((tk0 (S.A j 0) (S.q u 0) (S.q u 1) 127 (S.A j 3) (S.cr j)).2.2.2.1)), (5, .double ((tk0 (S.A j 0) (S.q u 0) (S.q u 1) 127 (S.A j 3) (S.cr j)).2.2.2.2.1)), (7, .double ((tk0 (S.A j 0) (S.q u 0) (S.q u 1) 127 (S.A j 3) (S.cr j)).1)), (9, .double ((tk0 (S.A j 0) (S.q u 0) (S.q u 1) 127 (S.A j 3) (S.cr j)).2.1)), (11, .int (-1)), (12, .int 10)]) ⟨rfl, rfl, rfl, rfl, rfl, rfl, rfl, rfl, rfl, trivial⟩ ?_
      have loop85 : ∀ (n : Nat) (k : Nat) (t : Tk) (n9 : Nat) (xn : Int32) (be : Int32), 146 - k = n → xn = nI n9 → 10 ≤ n9 → n9 ≤ 91 → k ≤ 146 → TkI k t → (∀ d9, n9 ≤ d9 → d9 ≤ 90 → flN (S.c 5) (nI d9) (150 - k) t = flN (S.c 5) (nI d9) 150 (tk0 (S.A j 0) (S.q u 0) (S.q u 1) 127 (S.A j 3) (S.cr j))) → (n9 ≤ 90 → dk t.1 < dk (FP.i2d (nI n9))) → be = reN S j (n9 - 10) → Aw p l e (rmOf 4 0 0 180) s m args below meth c Q s0.heap.size D 13 μ1 0 0 85 [(0, .ref (K 0 0)), (1, .int (nI j)), (2, .ref (K 8 j)), (3, .double t.2.2.2.1), (5, .double t.2.2.2.2.1), (7, .double t.1), (9, .double t.2.1), (11, .int be), (12, .int xn)] [] := by
        intro n
        induction n using Nat.strongRecOn with
        | _ n ih =>
          intro k t n9 xn be hn hx hn1 hn2 hk hT hN hlt hb9
          refine aw_iload C dX7_reach_85 rfl ?_
          refine aw_bipush C (v := 90) (by decide) dX7_reach_87 ?_
          refine aw_icmp_gt C (tgt := 162) dX7_reach_89 (by decide) (fun c_89 => ?_) (fun c_89 => ?_)
          · refine aw_iload C dX7_reach_162 rfl ?_
            refine aw_iret C hQe ?_ (by omega) (by omega) dX7_reach_164
            have e8 : n9 = 91 := by have h9 : nI 90 < xn := c_89; rw [hx, nI_ltI (by decide) (by omega)] at h9; omega
            subst e8
            have ej6 : ix (nI j) = j := ix_nI hj (by have := hI.A6; omega)
            have hc : rdC S (nI j) = 0 := by simp [rdC, b7, bd, ej6]
            rw [hc, ej6]
            exact ⟨⟨_, rfl, fun _ => hb9⟩, ⟨X.wth 0, hM1, hR, rfl⟩, hF1⟩
          · have hn3 : n9 ≤ 90 := by have h9 : ¬ nI 90 < xn := c_89; rw [hx, nI_ltI (by decide) (by omega)] at h9; omega
            obtain ⟨s1, s2, -⟩ := fl_step (w := S.c 5) (d := nI n9) hT hk (by rw [nI_toInt (by omega)]; omega) rfl (hlt hn3)
            have hb := tk_n hT hk (S.c 5)
            have hN1 : ∀ d9, n9 ≤ d9 → d9 ≤ 90 → flN (S.c 5) (nI d9) (150 - (k + 1)) (tk (S.c 5) t) = flN (S.c 5) (nI d9) 150 (tk0 (S.A j 0) (S.q u 0) (S.q u 1) 127 (S.A j 3) (S.cr j)) := fun d9 h1 h2 => by rw [← hN d9 h1 h2, show 150 - k = (150 - (k + 1)) + 1 by omega, flN_go (Int.lt_of_lt_of_le (hlt hn3) (i2d_mono h1 h2))]
            refine aw_dload C dX7_reach_92 rfl ?_
            refine aw_dload_n C dX7_reach_94 rfl ?_
            refine aw_ldc2d C k155 dX7_reach_95 ?_
            refine aw_ddiv C hb.1 dX7_reach_98 ?_
            refine aw_dadd C (s1.1.1.n (by omega)) dX7_reach_99 ?_
            refine aw_dstore C dX7_reach_100 (by decide) ?_
            refine aw_dload C dX7_reach_102 rfl ?_
            refine aw_dload C dX7_reach_104 rfl ?_
            refine aw_ldc2d C k155 dX7_reach_106 ?_
            refine aw_ddiv C hb.2.1 dX7_reach_109 ?_
            refine aw_dadd C (s1.1.2.1.n (by omega)) dX7_reach_110 ?_
            refine aw_dstore C dX7_reach_111 (by decide) ?_
            refine aw_dload_n C dX7_reach_113 rfl ?_
            refine aw_dload_n C dX7_reach_114 rfl ?_
            refine aw_ldc2d C k146 dX7_reach_115 ?_
            refine aw_ddiv C hb.2.2.2.1 dX7_reach_118 ?_
            refine aw_dsub C (s1.1.2.2.2.1.n (by omega)) dX7_reach_119 ?_
            refine aw_dstore_n C dX7_reach_120 (by decide) ?_
            refine aw_dload C dX7_reach_121 rfl ?_
            refine aw_ldc2d C k157 dX7_reach_123 ?_
            refine aw_dsub C (s1.1.2.2.2.2.1.n (by omega)) dX7_reach_126 ?_
            refine aw_dstore C dX7_reach_127 (by decide) ?_
            refine aw_lv (lv' := [(0, .ref (K 0 0)), (1, .int (nI j)), (2, .ref (K 8 j)), (3, .double ((tk (S.c 5) t).2.2.2.1)), (5, .double ((tk (S.c 5) t).2.2.2.2.1)), (7, .double ((tk (S.c 5) t).1)), (9, .double ((tk (S.c 5) t).2.1)), (11, .int be), (12, .int xn)]) ⟨rfl, rfl, rfl, rfl, rfl, rfl, rfl, rfl, rfl, trivial⟩ ?_
            have loop129 : ∀ (n2 : Nat) (m9 : Nat) (ym : Int32) (be2 : Int32), 91 - m9 = n2 → ym = nI m9 → 10 ≤ m9 → m9 ≤ 91 → (∀ d9, m9 ≤ d9 → d9 ≤ 90 → flN (S.c 5) (nI d9) (150 - (k + 1)) (tk (S.c 5) t) = flN (S.c 5) (nI d9) 150 (tk0 (S.A j 0) (S.q u 0) (S.q u 1) 127 (S.A j 3) (S.cr j))) → be2 = reN S j (m9 - 10) → Aw p l e (rmOf 4 0 0 180) s m args below meth c Q s0.heap.size D 13 μ1 0 0 129 [(0, .ref (K 0 0)), (1, .int (nI j)), (2, .ref (K 8 j)), (3, .double ((tk (S.c 5) t).2.2.2.1)), (5, .double ((tk (S.c 5) t).2.2.2.2.1)), (7, .double ((tk (S.c 5) t).1)), (9, .double ((tk (S.c 5) t).2.1)), (11, .int be2), (12, .int ym)] [] := by
              intro n2
              induction n2 using Nat.strongRecOn with
              | _ n2 ih2 =>
                intro m9 ym be2 hn2 hy hm1 hm2 hN2 hb2
                refine aw_iload C dX7_reach_129 rfl ?_
                refine aw_bipush C (v := 90) (by decide) dX7_reach_131 ?_
                refine aw_icmp_gt C (tgt := 85) dX7_reach_133 (by decide) (fun c_133 => ?_) (fun c_133 => ?_)
                · have e8 : m9 = 91 := by have h9 : nI 90 < ym := c_133; rw [hy, nI_ltI (by decide) (by omega)] at h9; omega
                  refine aw_lv (lv' := [(0, .ref (K 0 0)), (1, .int (nI j)), (2, .ref (K 8 j)), (3, .double ((tk (S.c 5) t).2.2.2.1)), (5, .double ((tk (S.c 5) t).2.2.2.2.1)), (7, .double ((tk (S.c 5) t).1)), (9, .double ((tk (S.c 5) t).2.1)), (11, .int be2), (12, .int ym)]) ⟨rfl, rfl, rfl, rfl, rfl, rfl, rfl, rfl, rfl, trivial⟩ ?_
                  exact ih _ (by omega) (k + 1) (tk (S.c 5) t) m9 ym be2 rfl hy hm1 hm2 s2 s1 hN2 (fun q => absurd q (by omega)) hb2
                · have hm3 : m9 ≤ 90 := by have h9 : ¬ nI 90 < ym := c_133; rw [hy, nI_ltI (by decide) (by omega)] at h9; omega
                  refine aw_dload C dX7_reach_136 rfl ?_
                  refine aw_iload C dX7_reach_138 rfl ?_
                  refine aw_i2d C dX7_reach_140 ?_
                  refine aw_dcmp C dX7_reach_141 ?_
                  refine aw_if_lt C (tgt := 85) dX7_reach_142 (by decide) (fun c_142 => ?_) (fun c_142 => ?_)
                  · subst hy
                    refine aw_lv (lv' := [(0, .ref (K 0 0)), (1, .int (nI j)), (2, .ref (K 8 j)), (3, .double ((tk (S.c 5) t).2.2.2.1)), (5, .double ((tk (S.c 5) t).2.2.2.2.1)), (7, .double ((tk (S.c 5) t).1)), (9, .double ((tk (S.c 5) t).2.1)), (11, .int be2), (12, .int (nI m9))]) ⟨rfl, rfl, rfl, rfl, rfl, rfl, rfl, rfl, rfl, trivial⟩ ?_
                    exact ih _ (by omega) (k + 1) (tk (S.c 5) t) m9 (nI m9) be2 rfl rfl hm1 hm2 s2 s1 hN2 (fun _ => (kv_lt0 (s1.1.1.nn (by omega)) (i2d_nn (nI m9)) .l).mp c_142) hb2
                  · subst hy
                    refine aw_dload C dX7_reach_145 rfl ?_
                    refine aw_dconst0 C dX7_reach_147 ?_
                    refine aw_dcmp C dX7_reach_148 ?_
                    refine aw_if_lt C (tgt := 156) dX7_reach_149 (by decide) (fun c_149 => ?_) (fun c_149 => ?_)
                    · refine aw_iinc C dX7_reach_156 rfl (by decide) ?_
                      refine aw_goto C (tgt := 129) dX7_reach_159 (by decide) ?_
                      have e9 : flV S j u 127 (nI m9) = (tk (S.c 5) t).2.1 := by unfold flV flT; rw [← hN2 m9 (Nat.le_refl _) hm3, flN_end (fun q => c_142 ((kv_lt0 (s1.1.1.nn (by omega)) (i2d_nn (nI m9)) .l).mpr q))]
                      have hb8 : be2 = reN S j (m9 + 1 - 10) := by rw [show m9 + 1 - 10 = (m9 - 10) + 1 by omega, reN_n (by rw [huq, eu6, show m9 - 10 + 10 = m9 by omega, e9, ← d0_key]; exact fun q => absurd ((kv_lt0 (s1.1.2.1.nn (by omega)) d0_nn .l).mp c_149) (Int.not_lt.mpr q))]; exact hb2
                      refine aw_lv (lv' := [(0, .ref (K 0 0)), (1, .int (nI j)), (2, .ref (K 8 j)), (3, .double ((tk (S.c 5) t).2.2.2.1)), (5, .double ((tk (S.c 5) t).2.2.2.2.1)), (7, .double ((tk (S.c 5) t).1)), (9, .double ((tk (S.c 5) t).2.1)), (11, .int be2), (12, .int (nI m9 + Int32.ofInt 1))]) ⟨rfl, rfl, rfl, rfl, rfl, rfl, rfl, rfl, rfl, trivial⟩ ?_
                      exact ih2 _ (by omega) (m9 + 1) (nI m9 + Int32.ofInt 1) be2 rfl (nI_inc m9) (by omega) (by omega) (fun d9 h1 h2 => hN2 d9 (by omega) h2) hb8
                    · refine aw_iload C dX7_reach_152 rfl ?_
                      refine aw_istore C dX7_reach_154 (by decide) ?_
                      refine aw_iinc C dX7_reach_156 rfl (by decide) ?_
                      refine aw_goto C (tgt := 129) dX7_reach_159 (by decide) ?_
                      have e9 : flV S j u 127 (nI m9) = (tk (S.c 5) t).2.1 := by unfold flV flT; rw [← hN2 m9 (Nat.le_refl _) hm3, flN_end (fun q => c_142 ((kv_lt0 (s1.1.1.nn (by omega)) (i2d_nn (nI m9)) .l).mpr q))]
                      have hb8 : nI m9 = reN S j (m9 + 1 - 10) := by rw [show m9 + 1 - 10 = (m9 - 10) + 1 by omega, reN_y (by rw [huq, eu6, show m9 - 10 + 10 = m9 by omega, e9, ← d0_key]; exact Int.not_lt.mp (fun q => c_149 ((kv_lt0 (s1.1.2.1.nn (by omega)) d0_nn .l).mpr q))), show m9 - 10 + 10 = m9 by omega]
                      refine aw_lv (lv' := [(0, .ref (K 0 0)), (1, .int (nI j)), (2, .ref (K 8 j)), (3, .double ((tk (S.c 5) t).2.2.2.1)), (5, .double ((tk (S.c 5) t).2.2.2.2.1)), (7, .double ((tk (S.c 5) t).1)), (9, .double ((tk (S.c 5) t).2.1)), (11, .int (nI m9)), (12, .int (nI m9 + Int32.ofInt 1))]) ⟨rfl, rfl, rfl, rfl, rfl, rfl, rfl, rfl, rfl, trivial⟩ ?_
                      exact ih2 _ (by omega) (m9 + 1) (nI m9 + Int32.ofInt 1) (nI m9) rfl (nI_inc m9) (by omega) (by omega) (fun d9 h1 h2 => hN2 d9 (by omega) h2) hb8
            exact loop129 _ n9 xn be rfl hx hn1 hn2 hN1 hb9
      exact loop85 _ 0 (tk0 (S.A j 0) (S.q u 0) (S.q u 1) 127 (S.A j 3) (S.cr j)) 10 10 (-1) rfl rfl (by decide) (by decide) (by decide) (tk0_I _ (127 : Int32) _ (hI.2.2.2.1 j hj).1 (hI.2.2.2.2.2.1 u hu) (hI.2.2.2.1 j hj).2.1) (fun _ _ _ => rfl) (fun _ => i2d_0) rfl
  · refine aw_eqi (y := 0) (if_neg b7) ?_
    refine aw_if_ne C (tgt := 19) dX7_reach_10 (by decide) (fun c9 => absurd (by decide) c9) (fun _ => ?_)
    refine aw_aload_n C dX7_reach_13 rfl ?_
    refine aw_iconst C (v := 1) (by decide) dX7_reach_14 ?_
    refine aw_callV (n := 1) C hE (ci := 9) (q := (RX7, TX7, 22)) (k_X7_refuse (x := 1) B hM1) gX7_reach_X7_refuse rfl ⟨rfl, rfl⟩ (by decide +kernel) ⟨by decide, by decide⟩ rfl rfl hM1.mo rfl (Nat.le_of_ble_eq_true rfl) dX7_reach_15 ⟨by decide, by decide⟩ (fun v μ' hp => ?_)
    obtain ⟨rfl, hM2, hG2⟩ := hp
    have hF2 : FrM K S.nA S.nQ μ _ := hF1.tr hG2
    refine aw_st (st' := [.int 0]) rfl ?_
    refine aw_iret C hQe ?_ (by omega) (by omega) dX7_reach_18
    have hc : rdC S x = 1 := by simp [rdC, b7]
    rw [hc]
    exact ⟨⟨_, rfl, fun q => absurd q (by decide)⟩, ⟨(X.wth 0).wth 1, hM2, hR, rfl⟩, hF2⟩
end KM7
