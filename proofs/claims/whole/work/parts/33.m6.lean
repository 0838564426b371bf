/-! ===== ArrowFieldModel: what is asked ===== -/
abbrev KpA (μ μ' : mu) : Prop := ∀ (a : Nat) (e : va_E), μ a = some e → μ' a = some e
theorem FrM.kp {K : Nat → Nat → Nat} {nA nQ : Nat} {μ μ' μ'' : mu} (h : FrM K nA nQ μ μ') (hk : KpA μ' μ'') : FrM K nA nQ μ μ'' := fun a e ha hn => hk _ _ (h a e ha hn)
theorem RM.nk {g : Nat → ClassId} {K : Nat → Nat → Nat} {e0 : Nat} {S : SS} {X : XS} {μ : mu} (h : RM g K e0 S X μ) {o : Nat} (ho : μ o = none) : ∀ k i, vM S.nA S.nQ k i → o ≠ K k i := by
  intro k i hv e
  have key : ∃ x, μ (K k i) = some x := by
    rcases hv with ⟨h1, rfl⟩ | ⟨rfl, rfl, h1⟩ | ⟨rfl, rfl, h1⟩ | ⟨rfl, h1⟩ | ⟨h1, h2, h3⟩
    · have : k = 0 ∨ k = 1 ∨ k = 2 ∨ k = 3 ∨ k = 4 ∨ k = 5 := by omega
      rcases this with rfl | rfl | rfl | rfl | rfl | rfl
      · exact ⟨_, h.mo⟩
      · exact ⟨_, h.aL⟩
      · exact ⟨_, h.qL⟩
      · exact ⟨_, h.pa⟩
      · exact ⟨_, h.po⟩
      · exact ⟨_, h.su⟩
    · exact ⟨_, h.aE h1⟩
    · exact ⟨_, h.qE h1⟩
    · exact ⟨_, h.xa h1⟩
    · have : k = 9 ∨ k = 10 ∨ k = 11 ∨ k = 12 := by omega
      rcases this with rfl | rfl | rfl | rfl
      · exact ⟨_, h.xq h3⟩
      · exact ⟨_, h.wh h3⟩
      · exact ⟨_, h.hh h3⟩
      · exact ⟨_, h.vv h3⟩
  obtain ⟨x, hx⟩ := key
  rw [← e, ho] at hx
  exact absurd hx (by intro z; cases z)
def oaX (A : Nat → Int32) (k : Nat) : Int32 := if k < 4 then A k else A (k + 1)
section KM6
variable {l : Launch} {s0 : State} {D : va_G} {g : Nat → ClassId}
set_option maxRecDepth 100000 in
set_option maxHeartbeats 4000000 in
theorem k_X7_ofArcherNow (B : Base s0) {μ : mu} {a : Nat} {A : Nat → Int32} {cr : UInt32} (h1 : μ a = some (eXa A cr)) {w : Nat} (hw : w < 11) : Ct l yX7_ofArcherNow wsX7_ofArcherNow (rmOf 0 1 11 0) s0 D (tyL g) [.ref a, .int (nI w)] μ 1 11 (fun v9 μ' => v9 = some (.int (oaX A w)) ∧ KpA μ μ') := by
  refine Ct.of (cc := cX7_ofArcherNow) (own := RX7) (maxL := 3) (ret := (some .int)) (by decide) rfl rfl (Nat.le_of_ble_eq_true rfl) ?_
  intro p e s m args below meth c Q C hE hnm hQe
  have in_RX5 : ∀ w ∈ u_ws RX5 TX5 12, w ∈ wsX7_ofArcherNow := by decide +kernel
  have f64 : FN s0 wsX7_ofArcherNow RX7 64 7 "ArrowFieldModel$Archer" RX5 TX5 12 0 "ArrowFieldModel" := ⟨in_RX5, rfl, by decide, B.fnRX7_64, rfl⟩
  have f67 : FN s0 wsX7_ofArcherNow RX7 67 7 "ArrowFieldModel$Archer" RX5 TX5 12 1 "ArrowFieldModel" := ⟨in_RX5, rfl, by decide, B.fnRX7_67, rfl⟩
  have f97 : FN s0 wsX7_ofArcherNow RX7 97 7 "ArrowFieldModel$Archer" RX5 TX5 12 2 "ArrowFieldModel" := ⟨in_RX5, rfl, by decide, B.fnRX7_97, rfl⟩
  have f100 : FN s0 wsX7_ofArcherNow RX7 100 7 "ArrowFieldModel$Archer" RX5 TX5 12 3 "ArrowFieldModel" := ⟨in_RX5, rfl, by decide, B.fnRX7_100, rfl⟩
  have f56 : FN s0 wsX7_ofArcherNow RX7 56 7 "ArrowFieldModel$Archer" RX5 TX5 12 5 "ArrowFieldModel" := ⟨in_RX5, rfl, by decide, B.fnRX7_56, rfl⟩
  have f217 : FN s0 wsX7_ofArcherNow RX7 217 7 "ArrowFieldModel$Archer" RX5 TX5 12 6 "ArrowFieldModel" := ⟨in_RX5, rfl, by decide, B.fnRX7_217, rfl⟩
  have f220 : FN s0 wsX7_ofArcherNow RX7 220 7 "ArrowFieldModel$Archer" RX5 TX5 12 7 "ArrowFieldModel" := ⟨in_RX5, rfl, by decide, B.fnRX7_220, rfl⟩
  have f247 : FN s0 wsX7_ofArcherNow RX7 247 7 "ArrowFieldModel$Archer" RX5 TX5 12 8 "ArrowFieldModel" := ⟨in_RX5, rfl, by decide, B.fnRX7_247, rfl⟩
  have f223 : FN s0 wsX7_ofArcherNow RX7 223 7 "ArrowFieldModel$Archer" RX5 TX5 12 9 "ArrowFieldModel" := ⟨in_RX5, rfl, by decide, B.fnRX7_223, rfl⟩
  have f226 : FN s0 wsX7_ofArcherNow RX7 226 7 "ArrowFieldModel$Archer" RX5 TX5 12 10 "ArrowFieldModel" := ⟨in_RX5, rfl, by decide, B.fnRX7_226, rfl⟩
  have f229 : FN s0 wsX7_ofArcherNow RX7 229 7 "ArrowFieldModel$Archer" RX5 TX5 12 11 "ArrowFieldModel" := ⟨in_RX5, rfl, by decide, B.fnRX7_229, rfl⟩
  refine aw_bipush C (v := 11) (by decide) dX7_ofArcherNow_0 ?_
  refine aw_newI C (N := 11) (by decide +kernel) (by decide) (by decide) (by decide) (by decide) (by decide) dX7_ofArcherNow_2 (fun o1 zo1 fo1 => ?_)
  refine aw_dup C rfl dX7_ofArcherNow_4 ?_
  refine aw_iconst C (v := 0) (by decide) dX7_ofArcherNow_5 ?_
  refine aw_aload_n C dX7_ofArcherNow_6 rfl ?_
  refine aw_getN C hE f64 (mp_k h1 (nn_ne fo1 h1)) rfl dX7_ofArcherNow_7 ?_
  refine aw_iastE C mp_s (by decide : (0 : Int32) = nI 0) ⟨by decide, by decide⟩ dX7_ofArcherNow_10 ?_
  refine aw_mu mp_mp ?_
  refine aw_dup C rfl dX7_ofArcherNow_11 ?_
  refine aw_iconst C (v := 1) (by decide) dX7_ofArcherNow_12 ?_
  refine aw_aload_n C dX7_ofArcherNow_13 rfl ?_
  refine aw_getN C hE f67 (mp_k h1 (nn_ne fo1 h1)) rfl dX7_ofArcherNow_14 ?_
  refine aw_iastE C mp_s (by decide : (1 : Int32) = nI 1) ⟨by decide, by decide⟩ dX7_ofArcherNow_17 ?_
  refine aw_mu mp_mp ?_
  refine aw_dup C rfl dX7_ofArcherNow_18 ?_
  refine aw_iconst C (v := 2) (by decide) dX7_ofArcherNow_19 ?_
  refine aw_aload_n C dX7_ofArcherNow_20 rfl ?_
  refine aw_getN C hE f97 (mp_k h1 (nn_ne fo1 h1)) rfl dX7_ofArcherNow_21 ?_
  refine aw_iastE C mp_s (by decide : (2 : Int32) = nI 2) ⟨by decide, by decide⟩ dX7_ofArcherNow_24 ?_
  refine aw_mu mp_mp ?_
  refine aw_dup C rfl dX7_ofArcherNow_25 ?_
  refine aw_iconst C (v := 3) (by decide) dX7_ofArcherNow_26 ?_
  refine aw_aload_n C dX7_ofArcherNow_27 rfl ?_
  refine aw_getN C hE f100 (mp_k h1 (nn_ne fo1 h1)) rfl dX7_ofArcherNow_28 ?_
  refine aw_iastE C mp_s (by decide : (3 : Int32) = nI 3) ⟨by decide, by decide⟩ dX7_ofArcherNow_31 ?_
  refine aw_mu mp_mp ?_
  refine aw_dup C rfl dX7_ofArcherNow_32 ?_
  refine aw_iconst C (v := 4) (by decide) dX7_ofArcherNow_33 ?_
  refine aw_aload_n C dX7_ofArcherNow_34 rfl ?_
  refine aw_getN C hE f56 (mp_k h1 (nn_ne fo1 h1)) rfl dX7_ofArcherNow_35 ?_
  refine aw_iastE C mp_s (by decide : (4 : Int32) = nI 4) ⟨by decide, by decide⟩ dX7_ofArcherNow_38 ?_
  refine aw_mu mp_mp ?_
  refine aw_dup C rfl dX7_ofArcherNow_39 ?_
  refine aw_iconst C (v := 5) (by decide) dX7_ofArcherNow_40 ?_
  refine aw_aload_n C dX7_ofArcherNow_41 rfl ?_
  refine aw_getN C hE f217 (mp_k h1 (nn_ne fo1 h1)) rfl dX7_ofArcherNow_42 ?_
  refine aw_iastE C mp_s (by decide : (5 : Int32) = nI 5) ⟨by decide, by decide⟩ dX7_ofArcherNow_45 ?_
  refine aw_mu mp_mp ?_
  refine aw_dup C rfl dX7_ofArcherNow_46 ?_
  refine aw_bipush C (v := 6) (by decide) dX7_ofArcherNow_47 ?_
  refine aw_aload_n C dX7_ofArcherNow_49 rfl ?_
  refine aw_getN C hE f220 (mp_k h1 (nn_ne fo1 h1)) rfl dX7_ofArcherNow_50 ?_
  refine aw_iastE C mp_s (by decide : (6 : Int32) = nI 6) ⟨by decide, by decide⟩ dX7_ofArcherNow_53 ?_
  refine aw_mu mp_mp ?_
  refine aw_dup C rfl dX7_ofArcherNow_54 ?_
  refine aw_bipush C (v := 7) (by decide) dX7_ofArcherNow_55 ?_
  refine aw_aload_n C dX7_ofArcherNow_57 rfl ?_
  refine aw_getN C hE f247 (mp_k h1 (nn_ne fo1 h1)) rfl dX7_ofArcherNow_58 ?_
  refine aw_iastE C mp_s (by decide : (7 : Int32) = nI 7) ⟨by decide, by decide⟩ dX7_ofArcherNow_61 ?_
  refine aw_mu mp_mp ?_
  refine aw_dup C rfl dX7_ofArcherNow_62 ?_
  refine aw_bipush C (v := 8) (by decide) dX7_ofArcherNow_63 ?_
  refine aw_aload_n C dX7_ofArcherNow_65 rfl ?_
  refine aw_getN C hE f223 (mp_k h1 (nn_ne fo1 h1)) rfl dX7_ofArcherNow_66 ?_
  refine aw_iastE C mp_s (by decide : (8 : Int32) = nI 8) ⟨by decide, by decide⟩ dX7_ofArcherNow_69 ?_
  refine aw_mu mp_mp ?_
  refine aw_dup C rfl dX7_ofArcherNow_70 ?_
  refine aw_bipush C (v := 9) (by decide) dX7_ofArcherNow_71 ?_
  refine aw_aload_n C dX7_ofArcherNow_73 rfl ?_
  refine aw_getN C hE f226 (mp_k h1 (nn_ne fo1 h1)) rfl dX7_ofArcherNow_74 ?_
  refine aw_iastE C mp_s (by decide : (9 : Int32) = nI 9) ⟨by decide, by decide⟩ dX7_ofArcherNow_77 ?_
  refine aw_mu mp_mp ?_
  refine aw_dup C rfl dX7_ofArcherNow_78 ?_
  refine aw_bipush C (v := 10) (by decide) dX7_ofArcherNow_79 ?_
  refine aw_aload_n C dX7_ofArcherNow_81 rfl ?_
  refine aw_getN C hE f229 (mp_k h1 (nn_ne fo1 h1)) rfl dX7_ofArcherNow_82 ?_
  refine aw_iastE C mp_s (by decide : (10 : Int32) = nI 10) ⟨by decide, by decide⟩ dX7_ofArcherNow_85 ?_
  refine aw_mu mp_mp ?_
  refine aw_astore_n C dX7_ofArcherNow_86 (by decide) ?_
  refine aw_aload_n C dX7_ofArcherNow_87 rfl ?_
  refine aw_iload_n C dX7_ofArcherNow_88 rfl ?_
  refine aw_ialdE C (v := oaX A w) mp_s rfl ⟨hw, by decide⟩ (by rcases (show w = 0 ∨ w = 1 ∨ w = 2 ∨ w = 3 ∨ w = 4 ∨ w = 5 ∨ w = 6 ∨ w = 7 ∨ w = 8 ∨ w = 9 ∨ w = 10 by omega) with rfl | rfl | rfl | rfl | rfl | rfl | rfl | rfl | rfl | rfl | rfl <;> rfl) dX7_ofArcherNow_89 ?_
  refine aw_iret C hQe ?_ (by omega) (by omega) dX7_ofArcherNow_90
  exact ⟨rfl, fun a9 e9 h9 => mp_k h9 (nn_ne fo1 h9)⟩
set_option maxRecDepth 100000 in
set_option maxHeartbeats 4000000 in
theorem k_X7_ofArcher (B : Base s0) {μ : mu} {K : Nat → Nat → Nat} {e0 : Nat} {S : SS} {X : XS} (hM : RM g K e0 S X μ) (hI : Iv S) {b : Nat} (hR : MR S X b) {x w : Int32} : Ct l yX7_ofArcher wsX7_ofArcher (rmOf 4 1 11 170) s0 D (tyL g) [.ref (K 0 0), .int x, .int w] μ 1 11 (fun v9 μ' => (∃ r : Int32, v9 = some (.int r) ∧ (oaC S x w = 0 → r = oaF S (ix x) (ix w))) ∧ PMx g K e0 S S (oaC S x w) b μ μ') := by
  refine Ct.of (cc := cX7_ofArcher) (own := RX7) (maxL := 3) (ret := (some .int)) (by decide) rfl rfl (Nat.le_of_ble_eq_true rfl) ?_
  intro p e s m args below meth c Q C hE hnm hQe
  have in_RX7 : ∀ w ∈ u_ws RX7 TX7 22, w ∈ wsX7_ofArcher := by decide +kernel
  have f39 : FL wsX7_ofArcher RX7 39 9 "ArrowFieldModel" RX7 TX7 22 0 := ⟨in_RX7, rfl, by decide, by decide +kernel, Or.inl rfl⟩
  have f10 : FL wsX7_ofArcher RX7 10 9 "ArrowFieldModel" RX7 TX7 22 1 := ⟨in_RX7, rfl, by decide, by decide +kernel, Or.inl rfl⟩
  refine aw_aload_n C dX7_ofArcher_0 rfl ?_
  refine aw_iconst C (v := 0) (by decide) dX7_ofArcher_1 ?_
  refine aw_putE C f39 ftX7 (ty := .int) (by decide +kernel) rfl rfl hM.mo (Nat.le_of_ble_eq_true rfl) (fs' := [.int 0, .ref (K 1 0), .ref (K 2 0), .int (S.c 4), .int (S.c 5), .int (S.c 6), .int (S.c 9), .int (S.c 10), .int (S.c 8), .int (S.c 13), .int (S.c 7), .int (S.c 11), .int (S.c 14), .ref (K 3 0), .ref (K 4 0), .ref (K 5 0), .double X.ne, .int (nI X.T), .int X.il, .double X.h, .double X.v, .long X.sm]) rfl dX7_ofArcher_2 ?_
  refine aw_re (P := fun μ1 => RM g K e0 S (X.wth 0) μ1 ∧ FrM K S.nA S.nQ μ μ1) ⟨hM.setX (X.wth 0) rfl rfl rfl, (FrM.rf : FrM K S.nA S.nQ μ μ).mpw (m0 (by decide))⟩ (fun μ1 hq => ?_)
  obtain ⟨hM1, hF1⟩ := hq
  refine aw_aload_n C dX7_ofArcher_5 rfl ?_
  refine aw_iload_n C dX7_ofArcher_6 rfl ?_
  refine aw_callV (n := 1) C hE (ci := 9) (q := (RX7, TX7, 22)) (k_X7_isArcher (x := x) B hM1 hI) gX7_ofArcher_X7_isArcher rfl ⟨rfl, rfl⟩ (by decide +kernel) ⟨by decide, by decide⟩ rfl rfl hM1.mo rfl (Nat.le_of_ble_eq_true rfl) dX7_ofArcher_7 ⟨by decide, by decide⟩ (fun v μ' hp => ?_)
  obtain ⟨rfl, hm9⟩ := hp
  replace hm9 := hm9.symm
  subst hm9
  refine aw_st (st' := [.int (if inb x S.nA = true then 1 else 0)]) rfl ?_
  by_cases b7 : inb x S.nA = true
  · refine aw_eqi (y := 1) (if_pos b7) ?_
    refine aw_if_ne C (tgt := 19) dX7_ofArcher_10 (by decide) (fun _ => ?_) (fun c9 => absurd c9 (by decide))
    obtain ⟨j, hj, rfl⟩ := inb_of b7 (by have := hI.A6; omega)
    refine aw_iload_n C dX7_ofArcher_19 rfl ?_
    refine aw_iconst C (v := 0) (by decide) dX7_ofArcher_20 ?_
    refine aw_bipush C (v := 10) (by decide) dX7_ofArcher_21 ?_
    refine aw_callS (n := 3) C hE (k_X7_is (x := w) (lo := 0) (hi := 10) B) gX7_ofArcher_X7_is rfl ⟨rfl, rfl⟩ (by decide +kernel) ⟨by decide, by decide⟩ rfl rfl (Nat.le_of_ble_eq_true rfl) dX7_ofArcher_23 ⟨by decide, by decide⟩ (fun v μ' hp => ?_)
    obtain ⟨rfl, hm9⟩ := hp
    replace hm9 := hm9.symm
    subst hm9
    refine aw_st (st' := [.int (if btw w 0 10 = true then 1 else 0)]) rfl ?_
    by_cases b23 : btw w 0 10 = true
    · refine aw_eqi (y := 1) (if_pos b23) ?_
      refine aw_if_eq C (tgt := 47) dX7_ofArcher_26 (by decide) (fun c9 => absurd c9 (by decide)) (fun _ => ?_)
      obtain ⟨w9, hw9, rfl⟩ := btw0 (n := 10) b23 (by decide)
      refine aw_aload_n C dX7_ofArcher_29 rfl ?_
      refine aw_get C f10 hM1.mo rfl dX7_ofArcher_30 ?_
      refine aw_iload_n C dX7_ofArcher_33 rfl ?_
      refine aw_callV (n := 1) C hE (ci := 1) (q := (RJx4a65c, TJx4a65c, 3)) (k_getA B hM1 hI hj) gX7_ofArcher_Jx4a65c_get_915e3 rfl ⟨rfl, rfl⟩ (by decide +kernel) ⟨by decide, by decide⟩ rfl rfl hM1.aL rfl (Nat.le_of_ble_eq_true rfl) dX7_ofArcher_34 ⟨by decide, by decide⟩ (fun v μ' hp => ?_)
      obtain ⟨rfl, hm9⟩ := hp
      replace hm9 := hm9.symm
      subst hm9
      refine aw_st (st' := [.ref (K 8 j)]) rfl ?_
      refine aw_cast C (ci := 7) (by decide +kernel) (va_Nw.warmC hE.1 B.caXa) rfl (hM1.xa hj) dX7_ofArcher_37 ?_
      refine aw_iload_n C dX7_ofArcher_40 rfl ?_
      refine aw_callS (n := 2) C hE (k_X7_ofArcherNow (w := w9) B (hM1.xa hj) hw9) gX7_ofArcher_X7_ofArcherNow rfl ⟨rfl, rfl⟩ (by decide +kernel) ⟨by decide, by decide⟩ rfl rfl (Nat.le_of_ble_eq_true rfl) dX7_ofArcher_41 ⟨by decide, by decide⟩ (fun v μ' hp => ?_)
      obtain ⟨rfl, hk2⟩ := hp
      have hM2 := hM1.keep hk2
      have hF2 := hF1.kp hk2
      refine aw_st (st' := [.int (oaX (S.A j) w9)]) rfl ?_
      refine aw_re (P := fun μ1 => RM g K e0 S (X.wth 0) μ1 ∧ FrM K S.nA S.nQ μ μ1) ⟨hM2, hF2⟩ (fun μ3 hq => ?_)
      obtain ⟨hM3, hF3⟩ := hq
      refine aw_goto C (tgt := 52) dX7_ofArcher_44 (by decide) ?_
      refine aw_iret C hQe ?_ (by omega) (by omega) dX7_ofArcher_52
      have hc : oaC S (nI j) (nI w9) = 0 := by simp [oaC, b7, b23]
      rw [hc]
      rw [show ix (nI j) = j from ix_nI hj (by have := hI.A6; omega)]
      rw [show ix (nI w9) = w9 from ix_nI hw9 (by decide)]
      exact ⟨⟨_, rfl, fun _ => rfl⟩, ⟨X.wth 0, hM3, hR, rfl⟩, hF3⟩
    · refine aw_eqi (y := 0) (if_neg b23) ?_
      refine aw_if_eq C (tgt := 47) dX7_ofArcher_26 (by decide) (fun _ => ?_) (fun c9 => absurd (by decide) c9)
      refine aw_aload_n C dX7_ofArcher_47 rfl ?_
      refine aw_iconst C (v := 2) (by decide) dX7_ofArcher_48 ?_
      refine aw_callV (n := 1) C hE (ci := 9) (q := (RX7, TX7, 22)) (k_X7_refuse (x := 2) B hM1) gX7_ofArcher_X7_refuse rfl ⟨rfl, rfl⟩ (by decide +kernel) ⟨by decide, by decide⟩ rfl rfl hM1.mo rfl (Nat.le_of_ble_eq_true rfl) dX7_ofArcher_49 ⟨by decide, by decide⟩ (fun v μ' hp => ?_)
      obtain ⟨rfl, hM2, hG2⟩ := hp
      have hF2 : FrM K S.nA S.nQ μ _ := hF1.tr hG2
      refine aw_st (st' := [.int 0]) rfl ?_
      refine aw_iret C hQe ?_ (by omega) (by omega) dX7_ofArcher_52
      have hc : oaC S (nI j) w = 2 := by simp [oaC, b7, b23]
      rw [hc]
      exact ⟨⟨_, rfl, fun q => absurd q (by decide)⟩, ⟨(X.wth 0).wth 2, hM2, hR, rfl⟩, hF2⟩
  · refine aw_eqi (y := 0) (if_neg b7) ?_
    refine aw_if_ne C (tgt := 19) dX7_ofArcher_10 (by decide) (fun c9 => absurd (by decide) c9) (fun _ => ?_)
    refine aw_aload_n C dX7_ofArcher_13 rfl ?_
    refine aw_iconst C (v := 1) (by decide) dX7_ofArcher_14 ?_
    refine aw_callV (n := 1) C hE (ci := 9) (q := (RX7, TX7, 22)) (k_X7_refuse (x := 1) B hM1) gX7_ofArcher_X7_refuse rfl ⟨rfl, rfl⟩ (by decide +kernel) ⟨by decide, by decide⟩ rfl rfl hM1.mo rfl (Nat.le_of_ble_eq_true rfl) dX7_ofArcher_15 ⟨by decide, by decide⟩ (fun v μ' hp => ?_)
    obtain ⟨rfl, hM2, hG2⟩ := hp
    have hF2 : FrM K S.nA S.nQ μ _ := hF1.tr hG2
    refine aw_st (st' := [.int 0]) rfl ?_
    refine aw_iret C hQe ?_ (by omega) (by omega) dX7_ofArcher_18
    have hc : oaC S x w = 1 := by simp [oaC, b7]
    rw [hc]
    exact ⟨⟨_, rfl, fun q => absurd q (by decide)⟩, ⟨(X.wth 0).wth 1, hM2, hR, rfl⟩, hF2⟩
set_option maxRecDepth 100000 in
set_option maxHeartbeats 4000000 in
theorem k_X7_speedNow (B : Base s0) {μ : mu} {K : Nat → Nat → Nat} {e0 : Nat} {S : SS} {X : XS} (hM : RM g K e0 S X μ) (hI : Iv S) {j : Nat} (hj : j < S.nA) : Ct l yX7_speedNow wsX7_speedNow (rmOf 3 0 0 120) s0 D (tyL g) [.ref (K 0 0), .ref (K 8 j)] μ 0 0 (fun v9 μ' => v9 = some (.double (sdF S j)) ∧ μ' = μ) := by
  refine Ct.of (cc := cX7_speedNow) (own := RX7) (maxL := 2) (ret := (some .double)) (by decide) rfl rfl (Nat.le_of_ble_eq_true rfl) ?_
  intro p e s m args below meth c Q C hE hnm hQe
  have in_RX5 : ∀ w ∈ u_ws RX5 TX5 12, w ∈ wsX7_speedNow := by decide +kernel
  have in_RX7 : ∀ w ∈ u_ws RX7 TX7 22, w ∈ wsX7_speedNow := by decide +kernel
  have f56 : FN s0 wsX7_speedNow RX7 56 7 "ArrowFieldModel$Archer" RX5 TX5 12 5 "ArrowFieldModel" := ⟨in_RX5, rfl, by decide, B.fnRX7_56, rfl⟩
  have f16 : FL wsX7_speedNow RX7 16 9 "ArrowFieldModel" RX7 TX7 22 2 := ⟨in_RX7, rfl, by decide, by decide +kernel, Or.inl rfl⟩
  refine aw_aload_n C dX7_speedNow_0 rfl ?_
  refine aw_getN C hE f56 (hM.xa hj) rfl dX7_speedNow_1 ?_
  refine aw_iconst C (v := (-1)) (by decide) dX7_speedNow_4 ?_
  refine aw_icmp_ne C (tgt := 12) dX7_speedNow_5 (by decide) (fun c_5 => ?_) (fun c_5 => ?_)
  · obtain ⟨u, hu, huq⟩ := (hI.2.2.2.1 j hj).2.2.resolve_left c_5
    have eu6 : ix (nI u) = u := ix_nI hu (by have := hI.Q6; omega)
    refine aw_aload_n C dX7_speedNow_12 rfl ?_
    refine aw_aload_n C dX7_speedNow_13 rfl ?_
    refine aw_get C f16 hM.mo rfl dX7_speedNow_14 ?_
    refine aw_aload_n C dX7_speedNow_17 rfl ?_
    refine aw_getN C hE f56 (hM.xa hj) rfl dX7_speedNow_18 ?_
    refine aw_eqi (y := nI u) huq ?_
    refine aw_callV (n := 1) C hE (ci := 1) (q := (RJx4a65c, TJx4a65c, 3)) (k_getQ B hM hI hu) gX7_speedNow_Jx4a65c_get_915e3 rfl ⟨rfl, rfl⟩ (by decide +kernel) ⟨by decide, by decide⟩ rfl rfl hM.qL rfl (Nat.le_of_ble_eq_true rfl) dX7_speedNow_21 ⟨by decide, by decide⟩ (fun v μ' hp => ?_)
    obtain ⟨rfl, hm9⟩ := hp
    replace hm9 := hm9.symm
    subst hm9
    refine aw_st (st' := [.ref (K 9 u), .ref (K 8 j)]) rfl ?_
    refine aw_cast C (ci := 8) (by decide +kernel) (va_Nw.warmC hE.1 B.caXq) rfl (hM.xq hu) dX7_speedNow_24 ?_
    refine aw_callS (n := 2) C hE (k_X7_speed (A := S.A j) (q := S.q u) (cr := S.cr j) B (hM.xa hj) (hM.xq hu) (hI.2.2.2.1 j hj).1 (hI.2.2.2.2.2.1 u hu) (hI.2.2.2.1 j hj).2.1) gX7_speedNow_X7_speed rfl ⟨rfl, rfl⟩ (by decide +kernel) ⟨by decide, by decide⟩ rfl rfl (Nat.le_of_ble_eq_true rfl) dX7_speedNow_27 ⟨by decide, by decide⟩ (fun v μ' hp => ?_)
    obtain ⟨rfl, hm9⟩ := hp
    replace hm9 := hm9.symm
    subst hm9
    refine aw_st (st' := [.double (spd (S.A j 0) (S.q u 0) (S.cr j))]) rfl ?_
    refine aw_dret C hQe ?_ (by omega) (by omega) dX7_speedNow_30
    exact ⟨by unfold sdF; rw [if_neg c_5, huq, eu6], rfl⟩
  · refine aw_dconst0 C dX7_speedNow_8 ?_
    refine aw_goto C (tgt := 30) dX7_speedNow_9 (by decide) ?_
    refine aw_dret C hQe ?_ (by omega) (by omega) dX7_speedNow_30
    exact ⟨by unfold sdF; rw [if_pos c_5], rfl⟩
set_option maxRecDepth 100000 in
set_option maxHeartbeats 4000000 in
theorem k_X7_speed_ (B : Base s0) {μ : mu} {K : Nat → Nat → Nat} {e0 : Nat} {S : SS} {X : XS} (hM : RM g K e0 S X μ) (hI : Iv S) {b : Nat} (hR : MR S X b) {x : Int32} : Ct l yX7_speed_ wsX7_speed_ (rmOf 4 0 0 180) s0 D (tyL g) [.ref (K 0 0), .int x] μ 0 0 (fun v9 μ' => (∃ r : UInt64, v9 = some (.double r) ∧ (stC S x = 0 → r = sdF S (ix x))) ∧ PMx g K e0 S S (stC S x) b μ μ') := by
  refine Ct.of (cc := cX7_speed_) (own := RX7) (maxL := 2) (ret := (some .double)) (by decide) rfl rfl (Nat.le_of_ble_eq_true rfl) ?_
  intro p e s m args below meth c Q C hE hnm hQe
  have in_RX7 : ∀ w ∈ u_ws RX7 TX7 22, w ∈ wsX7_speed_ := by decide +kernel
  have f39 : FL wsX7_speed_ RX7 39 9 "ArrowFieldModel" RX7 TX7 22 0 := ⟨in_RX7, rfl, by decide, by decide +kernel, Or.inl rfl⟩
  have f10 : FL wsX7_speed_ RX7 10 9 "ArrowFieldModel" RX7 TX7 22 1 := ⟨in_RX7, rfl, by decide, by decide +kernel, Or.inl rfl⟩
  refine aw_aload_n C dX7_speed__0 rfl ?_
  refine aw_aload_n C dX7_speed__1 rfl ?_
  refine aw_iload_n C dX7_speed__2 rfl ?_
  refine aw_callV (n := 1) C hE (ci := 9) (q := (RX7, TX7, 22)) (k_X7_isArcher (x := x) B hM hI) gX7_speed__X7_isArcher rfl ⟨rfl, rfl⟩ (by decide +kernel) ⟨by decide, by decide⟩ rfl rfl hM.mo rfl (Nat.le_of_ble_eq_true rfl) dX7_speed__3 ⟨by decide, by decide⟩ (fun v μ' hp => ?_)
  obtain ⟨rfl, hm9⟩ := hp
  replace hm9 := hm9.symm
  subst hm9
  refine aw_st (st' := [.int (if inb x S.nA = true then 1 else 0), .ref (K 0 0)]) rfl ?_
  by_cases b3 : inb x S.nA = true
  · refine aw_eqi (y := 1) (if_pos b3) ?_
    refine aw_if_eq C (tgt := 13) dX7_speed__6 (by decide) (fun c9 => absurd c9 (by decide)) (fun _ => ?_)
    refine aw_iconst C (v := 0) (by decide) dX7_speed__9 ?_
    refine aw_goto C (tgt := 14) dX7_speed__10 (by decide) ?_
    refine aw_putE C f39 ftX7 (ty := .int) (by decide +kernel) rfl rfl hM.mo (Nat.le_of_ble_eq_true rfl) (fs' := [.int 0, .ref (K 1 0), .ref (K 2 0), .int (S.c 4), .int (S.c 5), .int (S.c 6), .int (S.c 9), .int (S.c 10), .int (S.c 8), .int (S.c 13), .int (S.c 7), .int (S.c 11), .int (S.c 14), .ref (K 3 0), .ref (K 4 0), .ref (K 5 0), .double X.ne, .int (nI X.T), .int X.il, .double X.h, .double X.v, .long X.sm]) rfl dX7_speed__14 ?_
    refine aw_re (P := fun μ1 => RM g K e0 S (X.wth 0) μ1 ∧ FrM K S.nA S.nQ μ μ1) ⟨hM.setX (X.wth 0) rfl rfl rfl, (FrM.rf : FrM K S.nA S.nQ μ μ).mpw (m0 (by decide))⟩ (fun μ1 hq => ?_)
    obtain ⟨hM1, hF1⟩ := hq
    refine aw_aload_n C dX7_speed__17 rfl ?_
    refine aw_get C f39 hM1.mo rfl dX7_speed__18 ?_
    refine aw_eqi (y := 0) rfl ?_
    refine aw_if_ne C (tgt := 42) dX7_speed__21 (by decide) (fun c9 => absurd (by decide) c9) (fun _ => ?_)
    obtain ⟨j, hj, rfl⟩ := inb_of b3 (by have := hI.A6; omega)
    refine aw_aload_n C dX7_speed__24 rfl ?_
    refine aw_aload_n C dX7_speed__25 rfl ?_
    refine aw_get C f10 hM1.mo rfl dX7_speed__26 ?_
    refine aw_iload_n C dX7_speed__29 rfl ?_
    refine aw_callV (n := 1) C hE (ci := 1) (q := (RJx4a65c, TJx4a65c, 3)) (k_getA B hM1 hI hj) gX7_speed__Jx4a65c_get_915e3 rfl ⟨rfl, rfl⟩ (by decide +kernel) ⟨by decide, by decide⟩ rfl rfl hM1.aL rfl (Nat.le_of_ble_eq_true rfl) dX7_speed__30 ⟨by decide, by decide⟩ (fun v μ' hp => ?_)
    obtain ⟨rfl, hm9⟩ := hp
    replace hm9 := hm9.symm
    subst hm9
    refine aw_st (st' := [.ref (K 8 j), .ref (K 0 0)]) rfl ?_
    refine aw_cast C (ci := 7) (by decide +kernel) (va_Nw.warmC hE.1 B.caXa) rfl (hM1.xa hj) dX7_speed__33 ?_
    refine aw_callV (n := 1) C hE (ci := 9) (q := (RX7, TX7, 22)) (k_X7_speedNow B hM1 hI hj) gX7_speed__X7_speedNow rfl ⟨rfl, rfl⟩ (by decide +kernel) ⟨by decide, by decide⟩ rfl rfl hM1.mo rfl (Nat.le_of_ble_eq_true rfl) dX7_speed__36 ⟨by decide, by decide⟩ (fun v μ' hp => ?_)
    obtain ⟨rfl, hm9⟩ := hp
    replace hm9 := hm9.symm
    subst hm9
    refine aw_st (st' := [.double (sdF S j)]) rfl ?_
    refine aw_goto C (tgt := 43) dX7_speed__39 (by decide) ?_
    refine aw_dret C hQe ?_ (by omega) (by omega) dX7_speed__43
    have hc : stC S (nI j) = 0 := by simp [stC, b3]
    rw [hc]
    rw [show ix (nI j) = j from ix_nI hj (by have := hI.A6; omega)]
    exact ⟨⟨_, rfl, fun _ => rfl⟩, ⟨X.wth 0, hM1, hR, rfl⟩, hF1⟩
  · refine aw_eqi (y := 0) (if_neg b3) ?_
    refine aw_if_eq C (tgt := 13) dX7_speed__6 (by decide) (fun _ => ?_) (fun c9 => absurd (by decide) c9)
    refine aw_iconst C (v := 1) (by decide) dX7_speed__13 ?_
    refine aw_putE C f39 ftX7 (ty := .int) (by decide +kernel) rfl rfl hM.mo (Nat.le_of_ble_eq_true rfl) (fs' := [.int 1, .ref (K 1 0), .ref (K 2 0), .int (S.c 4), .int (S.c 5), .int (S.c 6), .int (S.c 9), .int (S.c 10), .int (S.c 8), .int (S.c 13), .int (S.c 7), .int (S.c 11), .int (S.c 14), .ref (K 3 0), .ref (K 4 0), .ref (K 5 0), .double X.ne, .int (nI X.T), .int X.il, .double X.h, .double X.v, .long X.sm]) rfl dX7_speed__14 ?_
    refine aw_re (P := fun μ1 => RM g K e0 S (X.wth 1) μ1 ∧ FrM K S.nA S.nQ μ μ1) ⟨hM.setX (X.wth 1) rfl rfl rfl, (FrM.rf : FrM K S.nA S.nQ μ μ).mpw (m0 (by decide))⟩ (fun μ1 hq => ?_)
    obtain ⟨hM1, hF1⟩ := hq
    refine aw_aload_n C dX7_speed__17 rfl ?_
    refine aw_get C f39 hM1.mo rfl dX7_speed__18 ?_
    refine aw_eqi (y := 1) rfl ?_
    refine aw_if_ne C (tgt := 42) dX7_speed__21 (by decide) (fun _ => ?_) (fun c9 => absurd c9 (by decide))
    refine aw_dconst0 C dX7_speed__42 ?_
    refine aw_dret C hQe ?_ (by omega) (by omega) dX7_speed__43
    have hc : stC S x = 1 := by simp [stC, b3]
    rw [hc]
    exact ⟨⟨_, rfl, fun q => absurd q (by decide)⟩, ⟨X.wth 1, hM1, hR, rfl⟩, hF1⟩
theorem nI_m3 {w : Nat} (h0 : ¬ w = 0) (h1 : ¬ w = 1) (h2 : ¬ w = 2) (hw : w < 7) : nI (w - 3) = nI w - 3 := by
  rcases (show w = 3 ∨ w = 4 ∨ w = 5 ∨ w = 6 by omega) with rfl | rfl | rfl | rfl <;> decide
set_option maxRecDepth 100000 in
set_option maxHeartbeats 4000000 in
theorem k_X7_ofQuiverNow (B : Base s0) {μ : mu} {K : Nat → Nat → Nat} {e0 : Nat} {S : SS} {X : XS} (hM : RM g K e0 S X μ) (hI : Iv S) {j w : Nat} (hj : j < S.nQ) (hw : w < 7) : Ct l yX7_ofQuiverNow wsX7_ofQuiverNow (rmOf 4 0 0 160) s0 D (tyL g) [.ref (K 0 0), .int (nI j), .int (nI w)] μ 0 0 (fun v9 μ' => v9 = some (.int (oqF S j w)) ∧ μ' = μ) := by
  refine Ct.of (cc := cX7_ofQuiverNow) (own := RX7) (maxL := 4) (ret := (some .int)) (by decide) rfl rfl (Nat.le_of_ble_eq_true rfl) ?_
  intro p e s m args below meth c Q C hE hnm hQe
  have in_RX7 : ∀ w ∈ u_ws RX7 TX7 22, w ∈ wsX7_ofQuiverNow := by decide +kernel
  have in_RX6 : ∀ w ∈ u_ws RX6 TX6 5, w ∈ wsX7_ofQuiverNow := by decide +kernel
  have f16 : FL wsX7_ofQuiverNow RX7 16 9 "ArrowFieldModel" RX7 TX7 22 2 := ⟨in_RX7, rfl, by decide, by decide +kernel, Or.inl rfl⟩
  have f80 : FN s0 wsX7_ofQuiverNow RX7 80 8 "ArrowFieldModel$Quiver" RX6 TX6 5 1 "ArrowFieldModel" := ⟨in_RX6, rfl, by decide, B.fnRX7_80, rfl⟩
  have f77 : FN s0 wsX7_ofQuiverNow RX7 77 8 "ArrowFieldModel$Quiver" RX6 TX6 5 0 "ArrowFieldModel" := ⟨in_RX6, rfl, by decide, B.fnRX7_77, rfl⟩
  refine aw_aload_n C dX7_ofQuiverNow_0 rfl ?_
  refine aw_get C f16 hM.mo rfl dX7_ofQuiverNow_1 ?_
  refine aw_iload_n C dX7_ofQuiverNow_4 rfl ?_
  refine aw_callV (n := 1) C hE (ci := 1) (q := (RJx4a65c, TJx4a65c, 3)) (k_getQ B hM hI hj) gX7_ofQuiverNow_Jx4a65c_get_915e3 rfl ⟨rfl, rfl⟩ (by decide +kernel) ⟨by decide, by decide⟩ rfl rfl hM.qL rfl (Nat.le_of_ble_eq_true rfl) dX7_ofQuiverNow_5 ⟨by decide, by decide⟩ (fun v μ' hp => ?_)
  obtain ⟨rfl, hm9⟩ := hp
  replace hm9 := hm9.symm
  subst hm9
  refine aw_st (st' := [.ref (K 9 j)]) rfl ?_
  refine aw_cast C (ci := 8) (by decide +kernel) (va_Nw.warmC hE.1 B.caXq) rfl (hM.xq hj) dX7_ofQuiverNow_8 ?_
  refine aw_astore_n C dX7_ofQuiverNow_11 (by decide) ?_
  refine aw_iload_n C dX7_ofQuiverNow_12 rfl ?_
  refine aw_if_ne C (tgt := 23) dX7_ofQuiverNow_13 (by decide) (fun c_13 => ?_) (fun c_13 => ?_)
  · refine aw_iload_n C dX7_ofQuiverNow_23 rfl ?_
    refine aw_iconst C (v := 1) (by decide) dX7_ofQuiverNow_24 ?_
    refine aw_icmp_ne C (tgt := 35) dX7_ofQuiverNow_25 (by decide) (fun c_25 => ?_) (fun c_25 => ?_)
    · refine aw_iload_n C dX7_ofQuiverNow_35 rfl ?_
      refine aw_iconst C (v := 2) (by decide) dX7_ofQuiverNow_36 ?_
      refine aw_icmp_ne C (tgt := 48) dX7_ofQuiverNow_37 (by decide) (fun c_37 => ?_) (fun c_37 => ?_)
      · refine aw_aload_n C dX7_ofQuiverNow_48 rfl ?_
        refine aw_iload_n C dX7_ofQuiverNow_49 rfl ?_
        refine aw_iconst C (v := 3) (by decide) dX7_ofQuiverNow_50 ?_
        refine aw_isub C dX7_ofQuiverNow_51 ?_
        refine aw_callV (n := 1) C hE (ci := 8) (q := (RX6, TX6, 5)) (k_X6_set (f := S.F j) (x := ((nI w) - 3)) B (hM.xq hj) (hM.wh hj)) gX7_ofQuiverNow_X6_set rfl ⟨rfl, rfl⟩ (by decide +kernel) ⟨by decide, by decide⟩ rfl rfl (hM.xq hj) rfl (Nat.le_of_ble_eq_true rfl) dX7_ofQuiverNow_52 ⟨by decide, by decide⟩ (fun v μ' hp => ?_)
        obtain ⟨rfl, hm9⟩ := hp
        replace hm9 := hm9.symm
        subst hm9
        refine aw_st (st' := [.int (setN (S.F j) ((nI w) - 3) 12)]) rfl ?_
        refine aw_iret C hQe ?_ (by omega) (by omega) dX7_ofQuiverNow_55
        have g0 : ¬ w = 0 := fun q => c_13 (by rw [q]; rfl)
        have g1 : ¬ w = 1 := fun q => c_25 (by rw [q]; rfl)
        have g2 : ¬ w = 2 := fun q => c_37 (by rw [q]; rfl)
        exact ⟨by unfold oqF; rw [if_neg g0, if_neg g1, if_neg g2, nI_m3 g0 g1 g2 hw], rfl⟩
      · have e2 : w = 2 := nI_inj (b := 2) (by omega) (by decide) c_37
        refine aw_aload_n C dX7_ofQuiverNow_40 rfl ?_
        refine aw_iload_n C dX7_ofQuiverNow_41 rfl ?_
        refine aw_callV (n := 1) C hE (ci := 9) (q := (RX7, TX7, 22)) (k_X7_holder (x := nI j) B hM hI) gX7_ofQuiverNow_X7_holder rfl ⟨rfl, rfl⟩ (by decide +kernel) ⟨by decide, by decide⟩ rfl rfl hM.mo rfl (Nat.le_of_ble_eq_true rfl) dX7_ofQuiverNow_42 ⟨by decide, by decide⟩ (fun v μ' hp => ?_)
        obtain ⟨rfl, hm9⟩ := hp
        replace hm9 := hm9.symm
        subst hm9
        refine aw_st (st' := [.int (hoF S (nI j))]) rfl ?_
        refine aw_goto C (tgt := 55) dX7_ofQuiverNow_45 (by decide) ?_
        refine aw_iret C hQe ?_ (by omega) (by omega) dX7_ofQuiverNow_55
        subst e2
        exact ⟨rfl, rfl⟩
    · have e1 : w = 1 := nI_inj (b := 1) (by omega) (by decide) c_25
      refine aw_aload_n C dX7_ofQuiverNow_28 rfl ?_
      refine aw_getN C hE f80 (hM.xq hj) rfl dX7_ofQuiverNow_29 ?_
      refine aw_goto C (tgt := 55) dX7_ofQuiverNow_32 (by decide) ?_
      refine aw_iret C hQe ?_ (by omega) (by omega) dX7_ofQuiverNow_55
      subst e1
      exact ⟨rfl, rfl⟩
  · have e0 : w = 0 := nI_inj (b := 0) (by omega) (by decide) c_13
    refine aw_aload_n C dX7_ofQuiverNow_16 rfl ?_
    refine aw_getN C hE f77 (hM.xq hj) rfl dX7_ofQuiverNow_17 ?_
    refine aw_goto C (tgt := 55) dX7_ofQuiverNow_20 (by decide) ?_
    refine aw_iret C hQe ?_ (by omega) (by omega) dX7_ofQuiverNow_55
    subst e0
    exact ⟨rfl, rfl⟩
set_option maxRecDepth 100000 in
set_option maxHeartbeats 4000000 in
theorem k_X7_ofQuiver (B : Base s0) {μ : mu} {K : Nat → Nat → Nat} {e0 : Nat} {S : SS} {X : XS} (hM : RM g K e0 S X μ) (hI : Iv S) {b : Nat} (hR : MR S X b) {x w : Int32} : Ct l yX7_ofQuiver wsX7_ofQuiver (rmOf 5 0 0 210) s0 D (tyL g) [.ref (K 0 0), .int x, .int w] μ 0 0 (fun v9 μ' => (∃ r : Int32, v9 = some (.int r) ∧ (oqC S x w = 0 → r = oqF S (ix x) (ix w))) ∧ PMx g K e0 S S (oqC S x w) b μ μ') := by
  refine Ct.of (cc := cX7_ofQuiver) (own := RX7) (maxL := 3) (ret := (some .int)) (by decide) rfl rfl (Nat.le_of_ble_eq_true rfl) ?_
  intro p e s m args below meth c Q C hE hnm hQe
  have in_RX7 : ∀ w ∈ u_ws RX7 TX7 22, w ∈ wsX7_ofQuiver := by decide +kernel
  have f39 : FL wsX7_ofQuiver RX7 39 9 "ArrowFieldModel" RX7 TX7 22 0 := ⟨in_RX7, rfl, by decide, by decide +kernel, Or.inl rfl⟩
  refine aw_aload_n C dX7_ofQuiver_0 rfl ?_
  refine aw_iconst C (v := 0) (by decide) dX7_ofQuiver_1 ?_
  refine aw_putE C f39 ftX7 (ty := .int) (by decide +kernel) rfl rfl hM.mo (Nat.le_of_ble_eq_true rfl) (fs' := [.int 0, .ref (K 1 0), .ref (K 2 0), .int (S.c 4), .int (S.c 5), .int (S.c 6), .int (S.c 9), .int (S.c 10), .int (S.c 8), .int (S.c 13), .int (S.c 7), .int (S.c 11), .int (S.c 14), .ref (K 3 0), .ref (K 4 0), .ref (K 5 0), .double X.ne, .int (nI X.T), .int X.il, .double X.h, .double X.v, .long X.sm]) rfl dX7_ofQuiver_2 ?_
  refine aw_re (P := fun μ1 => RM g K e0 S (X.wth 0) μ1 ∧ FrM K S.nA S.nQ μ μ1) ⟨hM.setX (X.wth 0) rfl rfl rfl, (FrM.rf : FrM K S.nA S.nQ μ μ).mpw (m0 (by decide))⟩ (fun μ1 hq => ?_)
  obtain ⟨hM1, hF1⟩ := hq
  refine aw_aload_n C dX7_ofQuiver_5 rfl ?_
  refine aw_iload_n C dX7_ofQuiver_6 rfl ?_
  refine aw_callV (n := 1) C hE (ci := 9) (q := (RX7, TX7, 22)) (k_X7_isQuiver (x := x) B hM1 hI) gX7_ofQuiver_X7_isQuiver rfl ⟨rfl, rfl⟩ (by decide +kernel) ⟨by decide, by decide⟩ rfl rfl hM1.mo rfl (Nat.le_of_ble_eq_true rfl) dX7_ofQuiver_7 ⟨by decide, by decide⟩ (fun v μ' hp => ?_)
  obtain ⟨rfl, hm9⟩ := hp
  replace hm9 := hm9.symm
  subst hm9
  refine aw_st (st' := [.int (if inb x S.nQ = true then 1 else 0)]) rfl ?_
  by_cases b7 : inb x S.nQ = true
  · refine aw_eqi (y := 1) (if_pos b7) ?_
    refine aw_if_ne C (tgt := 19) dX7_ofQuiver_10 (by decide) (fun _ => ?_) (fun c9 => absurd c9 (by decide))
    obtain ⟨j, hj, rfl⟩ := inb_of b7 (by have := hI.Q6; omega)
    refine aw_iload_n C dX7_ofQuiver_19 rfl ?_
    refine aw_iconst C (v := 0) (by decide) dX7_ofQuiver_20 ?_
    refine aw_bipush C (v := 6) (by decide) dX7_ofQuiver_21 ?_
    refine aw_callS (n := 3) C hE (k_X7_is (x := w) (lo := 0) (hi := 6) B) gX7_ofQuiver_X7_is rfl ⟨rfl, rfl⟩ (by decide +kernel) ⟨by decide, by decide⟩ rfl rfl (Nat.le_of_ble_eq_true rfl) dX7_ofQuiver_23 ⟨by decide, by decide⟩ (fun v μ' hp => ?_)
    obtain ⟨rfl, hm9⟩ := hp
    replace hm9 := hm9.symm
    subst hm9
    refine aw_st (st' := [.int (if btw w 0 6 = true then 1 else 0)]) rfl ?_
    by_cases b23 : btw w 0 6 = true
    · refine aw_eqi (y := 1) (if_pos b23) ?_
      refine aw_if_eq C (tgt := 38) dX7_ofQuiver_26 (by decide) (fun c9 => absurd c9 (by decide)) (fun _ => ?_)
      obtain ⟨w9, hw9, rfl⟩ := btw0 (n := 6) b23 (by decide)
      refine aw_aload_n C dX7_ofQuiver_29 rfl ?_
      refine aw_iload_n C dX7_ofQuiver_30 rfl ?_
      refine aw_iload_n C dX7_ofQuiver_31 rfl ?_
      refine aw_callV (n := 2) C hE (ci := 9) (q := (RX7, TX7, 22)) (k_X7_ofQuiverNow (w := w9) B hM1 hI hj hw9) gX7_ofQuiver_X7_ofQuiverNow rfl ⟨rfl, rfl⟩ (by decide +kernel) ⟨by decide, by decide⟩ rfl rfl hM1.mo rfl (Nat.le_of_ble_eq_true rfl) dX7_ofQuiver_32 ⟨by decide, by decide⟩ (fun v μ' hp => ?_)
      obtain ⟨rfl, hm9⟩ := hp
      replace hm9 := hm9.symm
      subst hm9
      refine aw_st (st' := [.int (oqF S j w9)]) rfl ?_
      refine aw_goto C (tgt := 43) dX7_ofQuiver_35 (by decide) ?_
      refine aw_iret C hQe ?_ (by omega) (by omega) dX7_ofQuiver_43
      have hc : oqC S (nI j) (nI w9) = 0 := by simp [oqC, b7, b23]
      rw [hc]
      rw [show ix (nI j) = j from ix_nI hj (by have := hI.Q6; omega)]
      rw [show ix (nI w9) = w9 from ix_nI hw9 (by decide)]
      exact ⟨⟨_, rfl, fun _ => rfl⟩, ⟨X.wth 0, hM1, hR, rfl⟩, hF1⟩
    · refine aw_eqi (y := 0) (if_neg b23) ?_
      refine aw_if_eq C (tgt := 38) dX7_ofQuiver_26 (by decide) (fun _ => ?_) (fun c9 => absurd (by decide) c9)
      refine aw_aload_n C dX7_ofQuiver_38 rfl ?_
      refine aw_iconst C (v := 2) (by decide) dX7_ofQuiver_39 ?_
      refine aw_callV (n := 1) C hE (ci := 9) (q := (RX7, TX7, 22)) (k_X7_refuse (x := 2) B hM1) gX7_ofQuiver_X7_refuse rfl ⟨rfl, rfl⟩ (by decide +kernel) ⟨by decide, by decide⟩ rfl rfl hM1.mo rfl (Nat.le_of_ble_eq_true rfl) dX7_ofQuiver_40 ⟨by decide, by decide⟩ (fun v μ' hp => ?_)
      obtain ⟨rfl, hM2, hG2⟩ := hp
      have hF2 : FrM K S.nA S.nQ μ _ := hF1.tr hG2
      refine aw_st (st' := [.int 0]) rfl ?_
      refine aw_iret C hQe ?_ (by omega) (by omega) dX7_ofQuiver_43
      have hc : oqC S (nI j) w = 2 := by simp [oqC, b7, b23]
      rw [hc]
      exact ⟨⟨_, rfl, fun q => absurd q (by decide)⟩, ⟨(X.wth 0).wth 2, hM2, hR, rfl⟩, hF2⟩
  · refine aw_eqi (y := 0) (if_neg b7) ?_
    refine aw_if_ne C (tgt := 19) dX7_ofQuiver_10 (by decide) (fun c9 => absurd (by decide) c9) (fun _ => ?_)
    refine aw_aload_n C dX7_ofQuiver_13 rfl ?_
    refine aw_iconst C (v := 1) (by decide) dX7_ofQuiver_14 ?_
    refine aw_callV (n := 1) C hE (ci := 9) (q := (RX7, TX7, 22)) (k_X7_refuse (x := 1) B hM1) gX7_ofQuiver_X7_refuse rfl ⟨rfl, rfl⟩ (by decide +kernel) ⟨by decide, by decide⟩ rfl rfl hM1.mo rfl (Nat.le_of_ble_eq_true rfl) dX7_ofQuiver_15 ⟨by decide, by decide⟩ (fun v μ' hp => ?_)
    obtain ⟨rfl, hM2, hG2⟩ := hp
    have hF2 : FrM K S.nA S.nQ μ _ := hF1.tr hG2
    refine aw_st (st' := [.int 0]) rfl ?_
    refine aw_iret C hQe ?_ (by omega) (by omega) dX7_ofQuiver_18
    have hc : oqC S x w = 1 := by simp [oqC, b7]
    rw [hc]
    exact ⟨⟨_, rfl, fun q => absurd q (by decide)⟩, ⟨(X.wth 0).wth 1, hM2, hR, rfl⟩, hF2⟩
set_option maxRecDepth 100000 in
set_option maxHeartbeats 4000000 in
theorem k_X7_hit (B : Base s0) {μ : mu} {K : Nat → Nat → Nat} {e0 : Nat} {S : SS} {X : XS} (hM : RM g K e0 S X μ) (hI : Iv S) {b : Nat} (hR : MR S X b) {x y b9 : Int32} : Ct l yX7_hit wsX7_hit (rmOf 4 0 0 170) s0 D (tyL g) [.ref (K 0 0), .int x, .int y, .int b9] μ 0 0 (fun v9 μ' => (∃ r : UInt64, v9 = some (.double r) ∧ (hiC S x y = 0 → r = hiF S (ix x) (ix y) b9)) ∧ PMx g K e0 S S (hiC S x y) b μ μ') := by
  refine Ct.of (cc := cX7_hit) (own := RX7) (maxL := 4) (ret := (some .double)) (by decide) rfl rfl (Nat.le_of_ble_eq_true rfl) ?_
  intro p e s m args below meth c Q C hE hnm hQe
  have in_RX7 : ∀ w ∈ u_ws RX7 TX7 22, w ∈ wsX7_hit := by decide +kernel
  have in_RX6 : ∀ w ∈ u_ws RX6 TX6 5, w ∈ wsX7_hit := by decide +kernel
  have f39 : FL wsX7_hit RX7 39 9 "ArrowFieldModel" RX7 TX7 22 0 := ⟨in_RX7, rfl, by decide, by decide +kernel, Or.inl rfl⟩
  have f16 : FL wsX7_hit RX7 16 9 "ArrowFieldModel" RX7 TX7 22 2 := ⟨in_RX7, rfl, by decide, by decide +kernel, Or.inl rfl⟩
  have f166 : FN s0 wsX7_hit RX7 166 8 "ArrowFieldModel$Quiver" RX6 TX6 5 3 "ArrowFieldModel" := ⟨in_RX6, rfl, by decide, B.fnRX7_166, rfl⟩
  have f177 : FN s0 wsX7_hit RX7 177 8 "ArrowFieldModel$Quiver" RX6 TX6 5 4 "ArrowFieldModel" := ⟨in_RX6, rfl, by decide, B.fnRX7_177, rfl⟩
  have hy : inb y 12 = btw y 0 11 := by
      have h := btw_inb (x := y) (n := 12) (by decide)
      rw [show nI 12 - 1 = (11 : Int32) by decide] at h
      exact h.symm
  refine aw_aload_n C dX7_hit_0 rfl ?_
  refine aw_aload_n C dX7_hit_1 rfl ?_
  refine aw_iload_n C dX7_hit_2 rfl ?_
  refine aw_callV (n := 1) C hE (ci := 9) (q := (RX7, TX7, 22)) (k_X7_isQuiver (x := x) B hM hI) gX7_hit_X7_isQuiver rfl ⟨rfl, rfl⟩ (by decide +kernel) ⟨by decide, by decide⟩ rfl rfl hM.mo rfl (Nat.le_of_ble_eq_true rfl) dX7_hit_3 ⟨by decide, by decide⟩ (fun v μ' hp => ?_)
  obtain ⟨rfl, hm9⟩ := hp
  replace hm9 := hm9.symm
  subst hm9
  refine aw_st (st' := [.int (if inb x S.nQ = true then 1 else 0), .ref (K 0 0)]) rfl ?_
  by_cases b3 : inb x S.nQ = true
  · refine aw_eqi (y := 1) (if_pos b3) ?_
    refine aw_if_eq C (tgt := 23) dX7_hit_6 (by decide) (fun c9 => absurd c9 (by decide)) (fun _ => ?_)
    refine aw_iload_n C dX7_hit_9 rfl ?_
    refine aw_iconst C (v := 0) (by decide) dX7_hit_10 ?_
    refine aw_bipush C (v := 11) (by decide) dX7_hit_11 ?_
    refine aw_callS (n := 3) C hE (k_X7_is (x := y) (lo := 0) (hi := 11) B) gX7_hit_X7_is rfl ⟨rfl, rfl⟩ (by decide +kernel) ⟨by decide, by decide⟩ rfl rfl (Nat.le_of_ble_eq_true rfl) dX7_hit_13 ⟨by decide, by decide⟩ (fun v μ' hp => ?_)
    obtain ⟨rfl, hm9⟩ := hp
    replace hm9 := hm9.symm
    subst hm9
    refine aw_st (st' := [.int (if btw y 0 11 = true then 1 else 0), .ref (K 0 0)]) rfl ?_
    by_cases b13 : btw y 0 11 = true
    · refine aw_eqi (y := 1) (if_pos b13) ?_
      refine aw_if_eq C (tgt := 23) dX7_hit_16 (by decide) (fun c9 => absurd c9 (by decide)) (fun _ => ?_)
      refine aw_iconst C (v := 0) (by decide) dX7_hit_19 ?_
      refine aw_goto C (tgt := 24) dX7_hit_20 (by decide) ?_
      refine aw_putE C f39 ftX7 (ty := .int) (by decide +kernel) rfl rfl hM.mo (Nat.le_of_ble_eq_true rfl) (fs' := [.int 0, .ref (K 1 0), .ref (K 2 0), .int (S.c 4), .int (S.c 5), .int (S.c 6), .int (S.c 9), .int (S.c 10), .int (S.c 8), .int (S.c 13), .int (S.c 7), .int (S.c 11), .int (S.c 14), .ref (K 3 0), .ref (K 4 0), .ref (K 5 0), .double X.ne, .int (nI X.T), .int X.il, .double X.h, .double X.v, .long X.sm]) rfl dX7_hit_24 ?_
      refine aw_re (P := fun μ1 => RM g K e0 S (X.wth 0) μ1 ∧ FrM K S.nA S.nQ μ μ1) ⟨hM.setX (X.wth 0) rfl rfl rfl, (FrM.rf : FrM K S.nA S.nQ μ μ).mpw (m0 (by decide))⟩ (fun μ1 hq => ?_)
      obtain ⟨hM1, hF1⟩ := hq
      refine aw_aload_n C dX7_hit_27 rfl ?_
      refine aw_get C f39 hM1.mo rfl dX7_hit_28 ?_
      refine aw_eqi (y := 0) rfl ?_
      refine aw_if_le C (tgt := 36) dX7_hit_31 (by decide) (fun _ => ?_) (fun c9 => absurd (by decide) c9)
      have hb2 : inb y 12 = true := by rw [hy]; exact b13
      obtain ⟨j, hj, rfl⟩ := inb_of b3 (by have := hI.Q6; omega)
      obtain ⟨k, hk, rfl⟩ := inb_of hb2 (by decide)
      refine aw_iload_n C dX7_hit_36 rfl ?_
      refine aw_if_eq C (tgt := 59) dX7_hit_37 (by decide) (fun c_37 => ?_) (fun c_37 => ?_)
      · refine aw_aload_n C dX7_hit_59 rfl ?_
        refine aw_get C f16 hM1.mo rfl dX7_hit_60 ?_
        refine aw_iload_n C dX7_hit_63 rfl ?_
        refine aw_callV (n := 1) C hE (ci := 1) (q := (RJx4a65c, TJx4a65c, 3)) (k_getQ B hM1 hI hj) gX7_hit_Jx4a65c_get_915e3 rfl ⟨rfl, rfl⟩ (by decide +kernel) ⟨by decide, by decide⟩ rfl rfl hM1.qL rfl (Nat.le_of_ble_eq_true rfl) dX7_hit_64 ⟨by decide, by decide⟩ (fun v μ' hp => ?_)
        obtain ⟨rfl, hm9⟩ := hp
        replace hm9 := hm9.symm
        subst hm9
        refine aw_st (st' := [.ref (K 9 j)]) rfl ?_
        refine aw_cast C (ci := 8) (by decide +kernel) (va_Nw.warmC hE.1 B.caXq) rfl (hM1.xq hj) dX7_hit_67 ?_
        refine aw_getN C hE f166 (hM1.xq hj) rfl dX7_hit_70 ?_
        refine aw_iload_n C dX7_hit_73 rfl ?_
        refine aw_daldE C (hM1.hh hj) rfl ⟨hk, by decide⟩ rfl dX7_hit_74 ?_
        refine aw_dret C hQe ?_ (by omega) (by omega) dX7_hit_75
        have e1 : ix (nI j) = j := ix_nI hj (by have := hI.Q6; omega)
        have e2 : ix (nI k) = k := ix_nI hk (by decide)
        have hc : hiC S (nI j) (nI k) = 0 := by unfold hiC; rw [if_pos (by rw [b3, hb2]; rfl)]
        rw [hc, e1, e2]
        exact ⟨⟨_, rfl, fun _ => by unfold hiF; rw [if_pos (show b9 = 0 from c_37)]⟩, ⟨X.wth 0, hM1, hR, rfl⟩, hF1⟩
      · refine aw_aload_n C dX7_hit_40 rfl ?_
        refine aw_get C f16 hM1.mo rfl dX7_hit_41 ?_
        refine aw_iload_n C dX7_hit_44 rfl ?_
        refine aw_callV (n := 1) C hE (ci := 1) (q := (RJx4a65c, TJx4a65c, 3)) (k_getQ B hM1 hI hj) gX7_hit_Jx4a65c_get_915e3 rfl ⟨rfl, rfl⟩ (by decide +kernel) ⟨by decide, by decide⟩ rfl rfl hM1.qL rfl (Nat.le_of_ble_eq_true rfl) dX7_hit_45 ⟨by decide, by decide⟩ (fun v μ' hp => ?_)
        obtain ⟨rfl, hm9⟩ := hp
        replace hm9 := hm9.symm
        subst hm9
        refine aw_st (st' := [.ref (K 9 j)]) rfl ?_
        refine aw_cast C (ci := 8) (by decide +kernel) (va_Nw.warmC hE.1 B.caXq) rfl (hM1.xq hj) dX7_hit_48 ?_
        refine aw_getN C hE f177 (hM1.xq hj) rfl dX7_hit_51 ?_
        refine aw_iload_n C dX7_hit_54 rfl ?_
        refine aw_daldE C (hM1.vv hj) rfl ⟨hk, by decide⟩ rfl dX7_hit_55 ?_
        refine aw_goto C (tgt := 75) dX7_hit_56 (by decide) ?_
        refine aw_dret C hQe ?_ (by omega) (by omega) dX7_hit_75
        have e1 : ix (nI j) = j := ix_nI hj (by have := hI.Q6; omega)
        have e2 : ix (nI k) = k := ix_nI hk (by decide)
        have hc : hiC S (nI j) (nI k) = 0 := by unfold hiC; rw [if_pos (by rw [b3, hb2]; rfl)]
        rw [hc, e1, e2]
        exact ⟨⟨_, rfl, fun _ => by unfold hiF; rw [if_neg (show ¬ b9 = 0 from c_37)]⟩, ⟨X.wth 0, hM1, hR, rfl⟩, hF1⟩
    · refine aw_eqi (y := 0) (if_neg b13) ?_
      refine aw_if_eq C (tgt := 23) dX7_hit_16 (by decide) (fun _ => ?_) (fun c9 => absurd (by decide) c9)
      refine aw_iconst C (v := 1) (by decide) dX7_hit_23 ?_
      refine aw_putE C f39 ftX7 (ty := .int) (by decide +kernel) rfl rfl hM.mo (Nat.le_of_ble_eq_true rfl) (fs' := [.int 1, .ref (K 1 0), .ref (K 2 0), .int (S.c 4), .int (S.c 5), .int (S.c 6), .int (S.c 9), .int (S.c 10), .int (S.c 8), .int (S.c 13), .int (S.c 7), .int (S.c 11), .int (S.c 14), .ref (K 3 0), .ref (K 4 0), .ref (K 5 0), .double X.ne, .int (nI X.T), .int X.il, .double X.h, .double X.v, .long X.sm]) rfl dX7_hit_24 ?_
      refine aw_re (P := fun μ1 => RM g K e0 S (X.wth 1) μ1 ∧ FrM K S.nA S.nQ μ μ1) ⟨hM.setX (X.wth 1) rfl rfl rfl, (FrM.rf : FrM K S.nA S.nQ μ μ).mpw (m0 (by decide))⟩ (fun μ1 hq => ?_)
      obtain ⟨hM1, hF1⟩ := hq
      refine aw_aload_n C dX7_hit_27 rfl ?_
      refine aw_get C f39 hM1.mo rfl dX7_hit_28 ?_
      refine aw_eqi (y := 1) rfl ?_
      refine aw_if_le C (tgt := 36) dX7_hit_31 (by decide) (fun c9 => absurd c9 (by decide)) (fun _ => ?_)
      refine aw_dconst0 C dX7_hit_34 ?_
      refine aw_dret C hQe ?_ (by omega) (by omega) dX7_hit_35
      have hc : hiC S x y = 1 := by simp [hiC, b3, b13, hy]
      rw [hc]
      exact ⟨⟨_, rfl, fun q => absurd q (by decide)⟩, ⟨X.wth 1, hM1, hR, rfl⟩, hF1⟩
  · refine aw_eqi (y := 0) (if_neg b3) ?_
    refine aw_if_eq C (tgt := 23) dX7_hit_6 (by decide) (fun _ => ?_) (fun c9 => absurd (by decide) c9)
    refine aw_iconst C (v := 1) (by decide) dX7_hit_23 ?_
    refine aw_putE C f39 ftX7 (ty := .int) (by decide +kernel) rfl rfl hM.mo (Nat.le_of_ble_eq_true rfl) (fs' := [.int 1, .ref (K 1 0), .ref (K 2 0), .int (S.c 4), .int (S.c 5), .int (S.c 6), .int (S.c 9), .int (S.c 10), .int (S.c 8), .int (S.c 13), .int (S.c 7), .int (S.c 11), .int (S.c 14), .ref (K 3 0), .ref (K 4 0), .ref (K 5 0), .double X.ne, .int (nI X.T), .int X.il, .double X.h, .double X.v, .long X.sm]) rfl dX7_hit_24 ?_
    refine aw_re (P := fun μ1 => RM g K e0 S (X.wth 1) μ1 ∧ FrM K S.nA S.nQ μ μ1) ⟨hM.setX (X.wth 1) rfl rfl rfl, (FrM.rf : FrM K S.nA S.nQ μ μ).mpw (m0 (by decide))⟩ (fun μ1 hq => ?_)
    obtain ⟨hM1, hF1⟩ := hq
    refine aw_aload_n C dX7_hit_27 rfl ?_
    refine aw_get C f39 hM1.mo rfl dX7_hit_28 ?_
    refine aw_eqi (y := 1) rfl ?_
    refine aw_if_le C (tgt := 36) dX7_hit_31 (by decide) (fun c9 => absurd c9 (by decide)) (fun _ => ?_)
    refine aw_dconst0 C dX7_hit_34 ?_
    refine aw_dret C hQe ?_ (by omega) (by omega) dX7_hit_35
    have hc : hiC S x y = 1 := by simp [hiC, b3, hy]
    rw [hc]
    exact ⟨⟨_, rfl, fun q => absurd q (by decide)⟩, ⟨X.wth 1, hM1, hR, rfl⟩, hF1⟩
theorem RM.wrt {g : Nat → ClassId} {K : Nat → Nat → Nat} {e0 : Nat} {S : SS} {X : XS} {μ : mu} (h : RM g K e0 S X μ) {o : Nat} (hn : ∀ k i, vM S.nA S.nQ k i → o ≠ K k i) (e : va_E) : RM g K e0 S X (mp μ o e) :=
  have q {k i : Nat} {y : va_E} (hy : μ (K k i) = some y) (hv : vM S.nA S.nQ k i) : mp μ o e (K k i) = some y := mp_k hy (fun z => hn k i hv z.symm)
  ⟨h.ki, q h.mo (m0 (by decide)), q h.aL (m0 (by decide)), q h.qL (m0 (by decide)), q h.pa (m0 (by decide)), q h.po (m0 (by decide)), q h.su (m0 (by decide)), fun z => q (h.aE z) (m6 z), fun z => q (h.qE z) (m7 z), fun i hi => q (h.xa hi) (m8 hi), fun i hi => q (h.xq hi) (m9 (by decide) hi), fun i hi => q (h.wh hi) (m9 (by decide) hi), fun i hi => q (h.hh hi) (m9 (by decide) hi), fun i hi => q (h.vv hi) (m9 (by decide) hi)⟩
theorem RM.ne_o {K : Nat → Nat → Nat} {nA nQ o : Nat} (hn : ∀ k i, vM nA nQ k i → o ≠ K k i) {k i : Nat} (hv : vM nA nQ k i) : K k i ≠ o := fun z => hn k i hv z.symm
set_option maxRecDepth 100000 in
set_option maxHeartbeats 4000000 in
theorem k_X7_manyNow (B : Base s0) {μ : mu} {K : Nat → Nat → Nat} {e0 : Nat} {S : SS} {X : XS} (hM : RM g K e0 S X μ) (hI : Iv S) {w : Nat} (hw : w < 12) : Ct l yX7_manyNow wsX7_manyNow (rmOf 4 2 16 180) s0 D (tyL g) [.ref (K 0 0), .int (nI w)] μ 2 16 (fun v9 μ' => v9 = some (.int (mnF S w)) ∧ RM g K e0 S X μ' ∧ FrM K S.nA S.nQ μ μ') := by
  refine Ct.of (cc := cX7_manyNow) (own := RX7) (maxL := 3) (ret := (some .int)) (by decide) rfl rfl (Nat.le_of_ble_eq_true rfl) ?_
  intro p e s m args below meth c Q C hE hnm hQe
  have in_RX7 : ∀ w ∈ u_ws RX7 TX7 22, w ∈ wsX7_manyNow := by decide +kernel
  have f10 : FL wsX7_manyNow RX7 10 9 "ArrowFieldModel" RX7 TX7 22 1 := ⟨in_RX7, rfl, by decide, by decide +kernel, Or.inl rfl⟩
  have f16 : FL wsX7_manyNow RX7 16 9 "ArrowFieldModel" RX7 TX7 22 2 := ⟨in_RX7, rfl, by decide, by decide +kernel, Or.inl rfl⟩
  have f19 : FL wsX7_manyNow RX7 19 9 "ArrowFieldModel" RX7 TX7 22 3 := ⟨in_RX7, rfl, by decide, by decide +kernel, Or.inl rfl⟩
  have f131 : FL wsX7_manyNow RX7 131 9 "ArrowFieldModel" RX7 TX7 22 4 := ⟨in_RX7, rfl, by decide, by decide +kernel, Or.inl rfl⟩
  have f23 : FL wsX7_manyNow RX7 23 9 "ArrowFieldModel" RX7 TX7 22 5 := ⟨in_RX7, rfl, by decide, by decide +kernel, Or.inl rfl⟩
  have f232 : FL wsX7_manyNow RX7 232 9 "ArrowFieldModel" RX7 TX7 22 6 := ⟨in_RX7, rfl, by decide, by decide +kernel, Or.inl rfl⟩
  have f179 : FL wsX7_manyNow RX7 179 9 "ArrowFieldModel" RX7 TX7 22 7 := ⟨in_RX7, rfl, by decide, by decide +kernel, Or.inl rfl⟩
  have f197 : FL wsX7_manyNow RX7 197 9 "ArrowFieldModel" RX7 TX7 22 8 := ⟨in_RX7, rfl, by decide, by decide +kernel, Or.inl rfl⟩
  have f250 : FL wsX7_manyNow RX7 250 9 "ArrowFieldModel" RX7 TX7 22 9 := ⟨in_RX7, rfl, by decide, by decide +kernel, Or.inl rfl⟩
  have f182 : FL wsX7_manyNow RX7 182 9 "ArrowFieldModel" RX7 TX7 22 10 := ⟨in_RX7, rfl, by decide, by decide +kernel, Or.inl rfl⟩
  have f253 : FL wsX7_manyNow RX7 253 9 "ArrowFieldModel" RX7 TX7 22 11 := ⟨in_RX7, rfl, by decide, by decide +kernel, Or.inl rfl⟩
  refine aw_bipush C (v := 12) (by decide) dX7_manyNow_0 ?_
  refine aw_newI C (N := 12) (by decide +kernel) (by decide) (by decide) (by decide) (by decide) (by decide) dX7_manyNow_2 (fun o1 zo1 fo1 => ?_)
  refine aw_dup C rfl dX7_manyNow_4 ?_
  refine aw_iconst C (v := 0) (by decide) dX7_manyNow_5 ?_
  refine aw_aload_n C dX7_manyNow_6 rfl ?_
  refine aw_get C f10 (mp_k hM.mo (nn_ne fo1 hM.mo)) rfl dX7_manyNow_7 ?_
  refine aw_callV (n := 0) C hE (ci := 1) (q := (RJx4a65c, TJx4a65c, 3)) (k_Jx4a65c_size_8abf5 B (mp_k hM.aL (nn_ne fo1 hM.aL))) gX7_manyNow_Jx4a65c_size_8abf5 rfl ⟨rfl, rfl⟩ (by decide +kernel) ⟨by decide, by decide⟩ rfl rfl (mp_k hM.aL (nn_ne fo1 hM.aL)) rfl (Nat.le_of_ble_eq_true rfl) dX7_manyNow_10 ⟨by decide, by decide⟩ (fun v μ' hp => ?_)
  obtain ⟨rfl, hm9⟩ := hp
  replace hm9 := hm9.symm
  subst hm9
  refine aw_st (st' := [.int (nI S.nA), .int 0, .ref o1, .ref o1]) rfl ?_
  refine aw_eqi (y := S.c 2) hI.1.1.symm ?_
  refine aw_iastE C mp_s (by decide : (0 : Int32) = nI 0) ⟨by decide, by decide⟩ dX7_manyNow_13 ?_
  refine aw_mu mp_mp ?_
  refine aw_dup C rfl dX7_manyNow_14 ?_
  refine aw_iconst C (v := 1) (by decide) dX7_manyNow_15 ?_
  refine aw_aload_n C dX7_manyNow_16 rfl ?_
  refine aw_get C f16 (mp_k hM.mo (nn_ne fo1 hM.mo)) rfl dX7_manyNow_17 ?_
  refine aw_callV (n := 0) C hE (ci := 1) (q := (RJx4a65c, TJx4a65c, 3)) (k_Jx4a65c_size_8abf5 B (mp_k hM.qL (nn_ne fo1 hM.qL))) gX7_manyNow_Jx4a65c_size_8abf5 rfl ⟨rfl, rfl⟩ (by decide +kernel) ⟨by decide, by decide⟩ rfl rfl (mp_k hM.qL (nn_ne fo1 hM.qL)) rfl (Nat.le_of_ble_eq_true rfl) dX7_manyNow_20 ⟨by decide, by decide⟩ (fun v μ' hp => ?_)
  obtain ⟨rfl, hm9⟩ := hp
  replace hm9 := hm9.symm
  subst hm9
  refine aw_st (st' := [.int (nI S.nQ), .int 1, .ref o1, .ref o1]) rfl ?_
  refine aw_eqi (y := S.c 3) hI.1.2.2.1.symm ?_
  refine aw_iastE C mp_s (by decide : (1 : Int32) = nI 1) ⟨by decide, by decide⟩ dX7_manyNow_23 ?_
  refine aw_mu mp_mp ?_
  refine aw_dup C rfl dX7_manyNow_24 ?_
  refine aw_iconst C (v := 2) (by decide) dX7_manyNow_25 ?_
  refine aw_aload_n C dX7_manyNow_26 rfl ?_
  refine aw_get C f19 (mp_k hM.mo (nn_ne fo1 hM.mo)) rfl dX7_manyNow_27 ?_
  refine aw_iastE C mp_s (by decide : (2 : Int32) = nI 2) ⟨by decide, by decide⟩ dX7_manyNow_30 ?_
  refine aw_mu mp_mp ?_
  refine aw_dup C rfl dX7_manyNow_31 ?_
  refine aw_iconst C (v := 3) (by decide) dX7_manyNow_32 ?_
  refine aw_aload_n C dX7_manyNow_33 rfl ?_
  refine aw_get C f131 (mp_k hM.mo (nn_ne fo1 hM.mo)) rfl dX7_manyNow_34 ?_
  refine aw_iastE C mp_s (by decide : (3 : Int32) = nI 3) ⟨by decide, by decide⟩ dX7_manyNow_37 ?_
  refine aw_mu mp_mp ?_
  refine aw_dup C rfl dX7_manyNow_38 ?_
  refine aw_iconst C (v := 4) (by decide) dX7_manyNow_39 ?_
  refine aw_aload_n C dX7_manyNow_40 rfl ?_
  refine aw_get C f23 (mp_k hM.mo (nn_ne fo1 hM.mo)) rfl dX7_manyNow_41 ?_
  refine aw_iastE C mp_s (by decide : (4 : Int32) = nI 4) ⟨by decide, by decide⟩ dX7_manyNow_44 ?_
  refine aw_mu mp_mp ?_
  refine aw_dup C rfl dX7_manyNow_45 ?_
  refine aw_iconst C (v := 5) (by decide) dX7_manyNow_46 ?_
  refine aw_aload_n C dX7_manyNow_47 rfl ?_
  have hnk := hM.nk fo1
  refine aw_re (P := fun μ1 => RM g K e0 S X μ1 ∧ FrM K S.nA S.nQ μ μ1 ∧ μ1 o1 = some (eI g 12 (upd (upd (upd (upd (upd (fun _ => 0) 0 (S.c 2)) 1 (S.c 3)) 2 (S.c 4)) 3 (S.c 5)) 4 (S.c 6)))) ⟨hM.nw fo1, (FrM.rf : FrM K S.nA S.nQ μ μ).kp (fun a9 e9 h9 => mp_k h9 (nn_ne fo1 h9)), mp_s⟩ (fun μ1 hq => ?_)
  obtain ⟨hM1, hF1, hAr⟩ := hq
  refine aw_callV (n := 0) C hE (ci := 9) (q := (RX7, TX7, 22)) (k_X7_stuck B hM1 hI) gX7_manyNow_X7_stuck rfl ⟨rfl, rfl⟩ (by decide +kernel) ⟨by decide, by decide⟩ rfl rfl hM1.mo rfl (Nat.le_of_ble_eq_true rfl) dX7_manyNow_48 ⟨by decide, by decide⟩ (fun v μ' hp => ?_)
  obtain ⟨rfl, hM2, hG2⟩ := hp
  have hF2 : FrM K S.nA S.nQ μ _ := hF1.tr hG2
  have hAr2 := hG2 _ _ hAr hnk
  refine aw_st (st' := [.int (skF S), .int 5, .ref o1, .ref o1]) rfl ?_
  refine aw_re (P := fun μ1 => RM g K e0 S X μ1 ∧ FrM K S.nA S.nQ μ μ1 ∧ μ1 o1 = some (eI g 12 (upd (upd (upd (upd (upd (fun _ => 0) 0 (S.c 2)) 1 (S.c 3)) 2 (S.c 4)) 3 (S.c 5)) 4 (S.c 6)))) ⟨hM2, hF2, hAr2⟩ (fun μ3 hq => ?_)
  obtain ⟨hM3, hF3, hAr3⟩ := hq
  refine aw_iastE C hAr3 (by decide : (5 : Int32) = nI 5) ⟨by decide, by decide⟩ dX7_manyNow_51 ?_
  refine aw_dup C rfl dX7_manyNow_52 ?_
  refine aw_bipush C (v := 6) (by decide) dX7_manyNow_53 ?_
  refine aw_aload_n C dX7_manyNow_55 rfl ?_
  refine aw_get C f232 (mp_k hM3.mo (RM.ne_o hnk (m0 (by decide)))) rfl dX7_manyNow_56 ?_
  refine aw_iastE C mp_s (by decide : (6 : Int32) = nI 6) ⟨by decide, by decide⟩ dX7_manyNow_59 ?_
  refine aw_mu mp_mp ?_
  refine aw_dup C rfl dX7_manyNow_60 ?_
  refine aw_bipush C (v := 7) (by decide) dX7_manyNow_61 ?_
  refine aw_aload_n C dX7_manyNow_63 rfl ?_
  refine aw_get C f179 (mp_k hM3.mo (RM.ne_o hnk (m0 (by decide)))) rfl dX7_manyNow_64 ?_
  refine aw_iastE C mp_s (by decide : (7 : Int32) = nI 7) ⟨by decide, by decide⟩ dX7_manyNow_67 ?_
  refine aw_mu mp_mp ?_
  refine aw_dup C rfl dX7_manyNow_68 ?_
  refine aw_bipush C (v := 8) (by decide) dX7_manyNow_69 ?_
  refine aw_aload_n C dX7_manyNow_71 rfl ?_
  refine aw_get C f197 (mp_k hM3.mo (RM.ne_o hnk (m0 (by decide)))) rfl dX7_manyNow_72 ?_
  refine aw_iastE C mp_s (by decide : (8 : Int32) = nI 8) ⟨by decide, by decide⟩ dX7_manyNow_75 ?_
  refine aw_mu mp_mp ?_
  refine aw_dup C rfl dX7_manyNow_76 ?_
  refine aw_bipush C (v := 9) (by decide) dX7_manyNow_77 ?_
  refine aw_aload_n C dX7_manyNow_79 rfl ?_
  refine aw_get C f250 (mp_k hM3.mo (RM.ne_o hnk (m0 (by decide)))) rfl dX7_manyNow_80 ?_
  refine aw_iastE C mp_s (by decide : (9 : Int32) = nI 9) ⟨by decide, by decide⟩ dX7_manyNow_83 ?_
  refine aw_mu mp_mp ?_
  refine aw_dup C rfl dX7_manyNow_84 ?_
  refine aw_bipush C (v := 10) (by decide) dX7_manyNow_85 ?_
  refine aw_aload_n C dX7_manyNow_87 rfl ?_
  refine aw_get C f182 (mp_k hM3.mo (RM.ne_o hnk (m0 (by decide)))) rfl dX7_manyNow_88 ?_
  refine aw_if_eq C (tgt := 98) dX7_manyNow_91 (by decide) (fun c_91 => ?_) (fun c_91 => ?_)
  · refine aw_iconst C (v := 0) (by decide) dX7_manyNow_98 ?_
    refine aw_iastE C mp_s (by decide : (10 : Int32) = nI 10) ⟨by decide, by decide⟩ dX7_manyNow_99 ?_
    refine aw_mu mp_mp ?_
    refine aw_dup C rfl dX7_manyNow_100 ?_
    refine aw_bipush C (v := 11) (by decide) dX7_manyNow_101 ?_
    refine aw_aload_n C dX7_manyNow_103 rfl ?_
    refine aw_get C f253 (mp_k hM3.mo (RM.ne_o hnk (m0 (by decide)))) rfl dX7_manyNow_104 ?_
    refine aw_iastE C mp_s (by decide : (11 : Int32) = nI 11) ⟨by decide, by decide⟩ dX7_manyNow_107 ?_
    refine aw_mu mp_mp ?_
    refine aw_astore_n C dX7_manyNow_108 (by decide) ?_
    refine aw_aload_n C dX7_manyNow_109 rfl ?_
    refine aw_iload_n C dX7_manyNow_110 rfl ?_
    have hw8 : (upd (upd (upd (upd (upd (upd (upd (upd (upd (upd (upd (upd (fun _ => 0) 0 (S.c 2)) 1 (S.c 3)) 2 (S.c 4)) 3 (S.c 5)) 4 (S.c 6)) 5 (skF S)) 6 (S.c 9)) 7 (S.c 10)) 8 (S.c 8)) 9 (S.c 13)) 10 0) 11 (S.c 11)) w = mnF S w := by
      rcases (show w = 0 ∨ w = 1 ∨ w = 2 ∨ w = 3 ∨ w = 4 ∨ w = 5 ∨ w = 6 ∨ w = 7 ∨ w = 8 ∨ w = 9 ∨ w = 10 ∨ w = 11 by omega) with rfl | rfl | rfl | rfl | rfl | rfl | rfl | rfl | rfl | rfl | rfl | rfl
      · exact rfl
      · exact rfl
      · exact rfl
      · exact rfl
      · exact rfl
      · exact rfl
      · exact rfl
      · exact rfl
      · exact rfl
      · exact rfl
      · exact c_91.symm
      · exact rfl
    refine aw_ialdE C (v := mnF S w) mp_s rfl ⟨hw, by decide⟩ hw8 dX7_manyNow_111 ?_
    refine aw_iret C hQe ?_ (by omega) (by omega) dX7_manyNow_112
    exact ⟨rfl, hM3.wrt hnk _, hF3.nwo fo1⟩
  · refine aw_iconst C (v := 1) (by decide) dX7_manyNow_94 ?_
    refine aw_goto C (tgt := 99) dX7_manyNow_95 (by decide) ?_
    refine aw_iastE C mp_s (by decide : (10 : Int32) = nI 10) ⟨by decide, by decide⟩ dX7_manyNow_99 ?_
    refine aw_mu mp_mp ?_
    refine aw_dup C rfl dX7_manyNow_100 ?_
    refine aw_bipush C (v := 11) (by decide) dX7_manyNow_101 ?_
    refine aw_aload_n C dX7_manyNow_103 rfl ?_
    refine aw_get C f253 (mp_k hM3.mo (RM.ne_o hnk (m0 (by decide)))) rfl dX7_manyNow_104 ?_
    refine aw_iastE C mp_s (by decide : (11 : Int32) = nI 11) ⟨by decide, by decide⟩ dX7_manyNow_107 ?_
    refine aw_mu mp_mp ?_
    refine aw_astore_n C dX7_manyNow_108 (by decide) ?_
    refine aw_aload_n C dX7_manyNow_109 rfl ?_
    refine aw_iload_n C dX7_manyNow_110 rfl ?_
    have hw8 : (upd (upd (upd (upd (upd (upd (upd (upd (upd (upd (upd (upd (fun _ => 0) 0 (S.c 2)) 1 (S.c 3)) 2 (S.c 4)) 3 (S.c 5)) 4 (S.c 6)) 5 (skF S)) 6 (S.c 9)) 7 (S.c 10)) 8 (S.c 8)) 9 (S.c 13)) 10 1) 11 (S.c 11)) w = mnF S w := by
      rcases (show w = 0 ∨ w = 1 ∨ w = 2 ∨ w = 3 ∨ w = 4 ∨ w = 5 ∨ w = 6 ∨ w = 7 ∨ w = 8 ∨ w = 9 ∨ w = 10 ∨ w = 11 by omega) with rfl | rfl | rfl | rfl | rfl | rfl | rfl | rfl | rfl | rfl | rfl | rfl
      · exact rfl
      · exact rfl
      · exact rfl
      · exact rfl
      · exact rfl
      · exact rfl
      · exact rfl
      · exact rfl
      · exact rfl
      · exact rfl
      · exact (hI.2.2.1.resolve_left c_91).symm
      · exact rfl
    refine aw_ialdE C (v := mnF S w) mp_s rfl ⟨hw, by decide⟩ hw8 dX7_manyNow_111 ?_
    refine aw_iret C hQe ?_ (by omega) (by omega) dX7_manyNow_112
    exact ⟨rfl, hM3.wrt hnk _, hF3.nwo fo1⟩
set_option maxRecDepth 100000 in
set_option maxHeartbeats 4000000 in
theorem k_X7_many (B : Base s0) {μ : mu} {K : Nat → Nat → Nat} {e0 : Nat} {S : SS} {X : XS} (hM : RM g K e0 S X μ) (hI : Iv S) {b : Nat} (hR : MR S X b) {w : Int32} : Ct l yX7_many wsX7_many (rmOf 5 2 16 210) s0 D (tyL g) [.ref (K 0 0), .int w] μ 2 16 (fun v9 μ' => (∃ r : Int32, v9 = some (.int r) ∧ (mnC w = 0 → r = mnF S (ix w))) ∧ PMx g K e0 S S (mnC w) b μ μ') := by
  refine Ct.of (cc := cX7_many) (own := RX7) (maxL := 2) (ret := (some .int)) (by decide) rfl rfl (Nat.le_of_ble_eq_true rfl) ?_
  intro p e s m args below meth c Q C hE hnm hQe
  have in_RX7 : ∀ w ∈ u_ws RX7 TX7 22, w ∈ wsX7_many := by decide +kernel
  have f39 : FL wsX7_many RX7 39 9 "ArrowFieldModel" RX7 TX7 22 0 := ⟨in_RX7, rfl, by decide, by decide +kernel, Or.inl rfl⟩
  refine aw_aload_n C dX7_many_0 rfl ?_
  refine aw_iconst C (v := 0) (by decide) dX7_many_1 ?_
  refine aw_putE C f39 ftX7 (ty := .int) (by decide +kernel) rfl rfl hM.mo (Nat.le_of_ble_eq_true rfl) (fs' := [.int 0, .ref (K 1 0), .ref (K 2 0), .int (S.c 4), .int (S.c 5), .int (S.c 6), .int (S.c 9), .int (S.c 10), .int (S.c 8), .int (S.c 13), .int (S.c 7), .int (S.c 11), .int (S.c 14), .ref (K 3 0), .ref (K 4 0), .ref (K 5 0), .double X.ne, .int (nI X.T), .int X.il, .double X.h, .double X.v, .long X.sm]) rfl dX7_many_2 ?_
  refine aw_re (P := fun μ1 => RM g K e0 S (X.wth 0) μ1 ∧ FrM K S.nA S.nQ μ μ1) ⟨hM.setX (X.wth 0) rfl rfl rfl, (FrM.rf : FrM K S.nA S.nQ μ μ).mpw (m0 (by decide))⟩ (fun μ1 hq => ?_)
  obtain ⟨hM1, hF1⟩ := hq
  refine aw_iload_n C dX7_many_5 rfl ?_
  refine aw_iconst C (v := 0) (by decide) dX7_many_6 ?_
  refine aw_bipush C (v := 11) (by decide) dX7_many_7 ?_
  refine aw_callS (n := 3) C hE (k_X7_is (x := w) (lo := 0) (hi := 11) B) gX7_many_X7_is rfl ⟨rfl, rfl⟩ (by decide +kernel) ⟨by decide, by decide⟩ rfl rfl (Nat.le_of_ble_eq_true rfl) dX7_many_9 ⟨by decide, by decide⟩ (fun v μ' hp => ?_)
  obtain ⟨rfl, hm9⟩ := hp
  replace hm9 := hm9.symm
  subst hm9
  refine aw_st (st' := [.int (if btw w 0 11 = true then 1 else 0)]) rfl ?_
  by_cases b9 : btw w 0 11 = true
  · refine aw_eqi (y := 1) (if_pos b9) ?_
    refine aw_if_eq C (tgt := 23) dX7_many_12 (by decide) (fun c9 => absurd c9 (by decide)) (fun _ => ?_)
    obtain ⟨w9, hw9, rfl⟩ := btw0 (n := 11) b9 (by decide)
    refine aw_aload_n C dX7_many_15 rfl ?_
    refine aw_iload_n C dX7_many_16 rfl ?_
    refine aw_callV (n := 1) C hE (ci := 9) (q := (RX7, TX7, 22)) (k_X7_manyNow (w := w9) B hM1 hI hw9) gX7_many_X7_manyNow rfl ⟨rfl, rfl⟩ (by decide +kernel) ⟨by decide, by decide⟩ rfl rfl hM1.mo rfl (Nat.le_of_ble_eq_true rfl) dX7_many_17 ⟨by decide, by decide⟩ (fun v μ' hp => ?_)
    obtain ⟨rfl, hM2, hG2⟩ := hp
    have hF2 : FrM K S.nA S.nQ μ _ := hF1.tr hG2
    refine aw_st (st' := [.int (mnF S w9)]) rfl ?_
    refine aw_re (P := fun μ1 => RM g K e0 S (X.wth 0) μ1 ∧ FrM K S.nA S.nQ μ μ1) ⟨hM2, hF2⟩ (fun μ3 hq => ?_)
    obtain ⟨hM3, hF3⟩ := hq
    refine aw_goto C (tgt := 28) dX7_many_20 (by decide) ?_
    refine aw_iret C hQe ?_ (by omega) (by omega) dX7_many_28
    have hc : mnC (nI w9) = 0 := by simp [mnC, b9]
    rw [hc]
    rw [show ix (nI w9) = w9 from ix_nI hw9 (by decide)]
    exact ⟨⟨_, rfl, fun _ => rfl⟩, ⟨X.wth 0, hM3, hR, rfl⟩, hF3⟩
  · refine aw_eqi (y := 0) (if_neg b9) ?_
    refine aw_if_eq C (tgt := 23) dX7_many_12 (by decide) (fun _ => ?_) (fun c9 => absurd (by decide) c9)
    refine aw_aload_n C dX7_many_23 rfl ?_
    refine aw_iconst C (v := 1) (by decide) dX7_many_24 ?_
    refine aw_callV (n := 1) C hE (ci := 9) (q := (RX7, TX7, 22)) (k_X7_refuse (x := 1) B hM1) gX7_many_X7_refuse rfl ⟨rfl, rfl⟩ (by decide +kernel) ⟨by decide, by decide⟩ rfl rfl hM1.mo rfl (Nat.le_of_ble_eq_true rfl) dX7_many_25 ⟨by decide, by decide⟩ (fun v μ' hp => ?_)
    obtain ⟨rfl, hM2, hG2⟩ := hp
    have hF2 : FrM K S.nA S.nQ μ _ := hF1.tr hG2
    refine aw_st (st' := [.int 0]) rfl ?_
    refine aw_iret C hQe ?_ (by omega) (by omega) dX7_many_28
    have hc : mnC w = 1 := by simp [mnC, b9]
    rw [hc]
    exact ⟨⟨_, rfl, fun q => absurd q (by decide)⟩, ⟨(X.wth 0).wth 1, hM2, hR, rfl⟩, hF2⟩
set_option maxRecDepth 100000 in
set_option maxHeartbeats 4000000 in
theorem k_X7_ofMatchNow (B : Base s0) {μ : mu} {K : Nat → Nat → Nat} {e0 : Nat} {S : SS} {X : XS} (hM : RM g K e0 S X μ) (hI : Iv S) {b : Nat} (hR : MR S X b) {w : Nat} (hw : w < 8) (hb : b < 2 ^ 30) : Ct l yX7_ofMatchNow wsX7_ofMatchNow (rmOf 2 1 8 80) s0 D (tyL g) [.ref (K 0 0), .int (nI w)] μ 1 8 (fun v9 μ' => v9 = some (.int (omF S w)) ∧ KpA μ μ') := by
  refine Ct.of (cc := cX7_ofMatchNow) (own := RX7) (maxL := 3) (ret := (some .int)) (by decide) rfl rfl (Nat.le_of_ble_eq_true rfl) ?_
  intro p e s m args below meth c Q C hE hnm hQe
  have in_RX7 : ∀ w ∈ u_ws RX7 TX7 22, w ∈ wsX7_ofMatchNow := by decide +kernel
  have f29 : FL wsX7_ofMatchNow RX7 29 9 "ArrowFieldModel" RX7 TX7 22 13 := ⟨in_RX7, rfl, by decide, by decide +kernel, Or.inl rfl⟩
  have f33 : FL wsX7_ofMatchNow RX7 33 9 "ArrowFieldModel" RX7 TX7 22 14 := ⟨in_RX7, rfl, by decide, by decide +kernel, Or.inl rfl⟩
  have f36 : FL wsX7_ofMatchNow RX7 36 9 "ArrowFieldModel" RX7 TX7 22 15 := ⟨in_RX7, rfl, by decide, by decide +kernel, Or.inl rfl⟩
  have f186 : FL wsX7_ofMatchNow RX7 186 9 "ArrowFieldModel" RX7 TX7 22 17 := ⟨in_RX7, rfl, by decide, by decide +kernel, Or.inl rfl⟩
  have f237 : FL wsX7_ofMatchNow RX7 237 9 "ArrowFieldModel" RX7 TX7 22 18 := ⟨in_RX7, rfl, by decide, by decide +kernel, Or.inl rfl⟩
  refine aw_aload_n C dX7_ofMatchNow_0 rfl ?_
  refine aw_callV (n := 0) C hE (ci := 9) (q := (RX7, TX7, 22)) (k_X7_isOn B hM hI hR) gX7_ofMatchNow_X7_isOn rfl ⟨rfl, rfl⟩ (by decide +kernel) ⟨by decide, by decide⟩ rfl rfl hM.mo rfl (Nat.le_of_ble_eq_true rfl) dX7_ofMatchNow_1 ⟨by decide, by decide⟩ (fun v μ' hp => ?_)
  obtain ⟨rfl, hm9⟩ := hp
  replace hm9 := hm9.symm
  subst hm9
  refine aw_st (st' := [.int (if S.t 0 = 0 then 0 else 1)]) rfl ?_
  by_cases b1 : S.t 0 = 0
  · refine aw_eqi (y := 0) (if_pos b1) ?_
    refine aw_if_ne C (tgt := 9) dX7_ofMatchNow_4 (by decide) (fun c9 => absurd (by decide) c9) (fun _ => ?_)
    refine aw_iconst C (v := (-1)) (by decide) dX7_ofMatchNow_7 ?_
    refine aw_iret C hQe ?_ (by omega) (by omega) dX7_ofMatchNow_8
    exact ⟨by rw [omF_off b1], fun a9 e9 h9 => h9⟩
  · refine aw_eqi (y := 1) (if_neg b1) ?_
    refine aw_if_ne C (tgt := 9) dX7_ofMatchNow_4 (by decide) (fun _ => ?_) (fun c9 => absurd c9 (by decide))
    have h0 : ¬ S.t 0 = 0 := b1
    obtain ⟨p0, p1, o0, o1t, u0, u1, il, -⟩ := hR.2.2 h0
    obtain ⟨-, k7, i7, j7, h74, h7, -, -, -, -, -, h8⟩ := hI.on h0
    have htr : X.pa (X.T % 2) = trF S := by
      rw [tr_T hI hR h0]
      rcases (show X.T % 2 = 0 ∨ X.T % 2 = 1 by omega) with q | q
      · rw [q]; exact p0
      · rw [q]; exact p1
    refine aw_bipush C (v := 8) (by decide) dX7_ofMatchNow_9 ?_
    refine aw_newI C (N := 8) (by decide +kernel) (by decide) (by decide) (by decide) (by decide) (by decide) dX7_ofMatchNow_11 (fun o1 zo1 fo1 => ?_)
    refine aw_dup C rfl dX7_ofMatchNow_13 ?_
    refine aw_iconst C (v := 0) (by decide) dX7_ofMatchNow_14 ?_
    refine aw_aload_n C dX7_ofMatchNow_15 rfl ?_
    refine aw_get C f29 (mp_k hM.mo (nn_ne fo1 hM.mo)) rfl dX7_ofMatchNow_16 ?_
    refine aw_iconst C (v := 0) (by decide) dX7_ofMatchNow_19 ?_
    refine aw_ialdE C (mp_k hM.pa (nn_ne fo1 hM.pa)) (by decide : (0 : Int32) = nI 0) ⟨by decide, by decide⟩ rfl dX7_ofMatchNow_20 ?_
    refine aw_eqi (y := S.t 1) p0 ?_
    refine aw_iastE C mp_s (by decide : (0 : Int32) = nI 0) ⟨by decide, by decide⟩ dX7_ofMatchNow_21 ?_
    refine aw_mu mp_mp ?_
    refine aw_dup C rfl dX7_ofMatchNow_22 ?_
    refine aw_iconst C (v := 1) (by decide) dX7_ofMatchNow_23 ?_
    refine aw_aload_n C dX7_ofMatchNow_24 rfl ?_
    refine aw_get C f29 (mp_k hM.mo (nn_ne fo1 hM.mo)) rfl dX7_ofMatchNow_25 ?_
    refine aw_iconst C (v := 1) (by decide) dX7_ofMatchNow_28 ?_
    refine aw_ialdE C (mp_k hM.pa (nn_ne fo1 hM.pa)) (by decide : (1 : Int32) = nI 1) ⟨by decide, by decide⟩ rfl dX7_ofMatchNow_29 ?_
    refine aw_eqi (y := S.t 2) p1 ?_
    refine aw_iastE C mp_s (by decide : (1 : Int32) = nI 1) ⟨by decide, by decide⟩ dX7_ofMatchNow_30 ?_
    refine aw_mu mp_mp ?_
    refine aw_dup C rfl dX7_ofMatchNow_31 ?_
    refine aw_iconst C (v := 2) (by decide) dX7_ofMatchNow_32 ?_
    refine aw_aload_n C dX7_ofMatchNow_33 rfl ?_
    refine aw_get C f33 (mp_k hM.mo (nn_ne fo1 hM.mo)) rfl dX7_ofMatchNow_34 ?_
    refine aw_iconst C (v := 0) (by decide) dX7_ofMatchNow_37 ?_
    refine aw_ialdE C (mp_k hM.po (nn_ne fo1 hM.po)) (by decide : (0 : Int32) = nI 0) ⟨by decide, by decide⟩ rfl dX7_ofMatchNow_38 ?_
    refine aw_eqi (y := S.t 3) o0 ?_
    refine aw_iastE C mp_s (by decide : (2 : Int32) = nI 2) ⟨by decide, by decide⟩ dX7_ofMatchNow_39 ?_
    refine aw_mu mp_mp ?_
    refine aw_dup C rfl dX7_ofMatchNow_40 ?_
    refine aw_iconst C (v := 3) (by decide) dX7_ofMatchNow_41 ?_
    refine aw_aload_n C dX7_ofMatchNow_42 rfl ?_
    refine aw_get C f33 (mp_k hM.mo (nn_ne fo1 hM.mo)) rfl dX7_ofMatchNow_43 ?_
    refine aw_iconst C (v := 1) (by decide) dX7_ofMatchNow_46 ?_
    refine aw_ialdE C (mp_k hM.po (nn_ne fo1 hM.po)) (by decide : (1 : Int32) = nI 1) ⟨by decide, by decide⟩ rfl dX7_ofMatchNow_47 ?_
    refine aw_eqi (y := S.t 4) o1t ?_
    refine aw_iastE C mp_s (by decide : (3 : Int32) = nI 3) ⟨by decide, by decide⟩ dX7_ofMatchNow_48 ?_
    refine aw_mu mp_mp ?_
    refine aw_dup C rfl dX7_ofMatchNow_49 ?_
    refine aw_iconst C (v := 4) (by decide) dX7_ofMatchNow_50 ?_
    refine aw_aload_n C dX7_ofMatchNow_51 rfl ?_
    refine aw_get C f36 (mp_k hM.mo (nn_ne fo1 hM.mo)) rfl dX7_ofMatchNow_52 ?_
    refine aw_iconst C (v := 0) (by decide) dX7_ofMatchNow_55 ?_
    refine aw_ialdE C (mp_k hM.su (nn_ne fo1 hM.su)) (by decide : (0 : Int32) = nI 0) ⟨by decide, by decide⟩ rfl dX7_ofMatchNow_56 ?_
    refine aw_eqi (y := S.t 5) u0 ?_
    refine aw_iastE C mp_s (by decide : (4 : Int32) = nI 4) ⟨by decide, by decide⟩ dX7_ofMatchNow_57 ?_
    refine aw_mu mp_mp ?_
    refine aw_dup C rfl dX7_ofMatchNow_58 ?_
    refine aw_iconst C (v := 5) (by decide) dX7_ofMatchNow_59 ?_
    refine aw_aload_n C dX7_ofMatchNow_60 rfl ?_
    refine aw_get C f36 (mp_k hM.mo (nn_ne fo1 hM.mo)) rfl dX7_ofMatchNow_61 ?_
    refine aw_iconst C (v := 1) (by decide) dX7_ofMatchNow_64 ?_
    refine aw_ialdE C (mp_k hM.su (nn_ne fo1 hM.su)) (by decide : (1 : Int32) = nI 1) ⟨by decide, by decide⟩ rfl dX7_ofMatchNow_65 ?_
    refine aw_eqi (y := S.t 6) u1 ?_
    refine aw_iastE C mp_s (by decide : (5 : Int32) = nI 5) ⟨by decide, by decide⟩ dX7_ofMatchNow_66 ?_
    refine aw_mu mp_mp ?_
    refine aw_dup C rfl dX7_ofMatchNow_67 ?_
    refine aw_bipush C (v := 6) (by decide) dX7_ofMatchNow_68 ?_
    refine aw_aload_n C dX7_ofMatchNow_70 rfl ?_
    refine aw_get C f29 (mp_k hM.mo (nn_ne fo1 hM.mo)) rfl dX7_ofMatchNow_71 ?_
    refine aw_aload_n C dX7_ofMatchNow_74 rfl ?_
    refine aw_get C f186 (mp_k hM.mo (nn_ne fo1 hM.mo)) rfl dX7_ofMatchNow_75 ?_
    refine aw_iconst C (v := 2) (by decide) dX7_ofMatchNow_78 ?_
    refine aw_irem C (by decide) dX7_ofMatchNow_79 ?_
    refine aw_eqi (y := nI (X.T % 2)) (pk_rem (d := 2) (by have := hR.1; omega) (by decide) (by decide)) ?_
    refine aw_ialdE C (mp_k hM.pa (nn_ne fo1 hM.pa)) rfl ⟨by omega, by decide⟩ rfl dX7_ofMatchNow_80 ?_
    refine aw_eqi (y := trF S) htr ?_
    refine aw_iastE C mp_s (by decide : (6 : Int32) = nI 6) ⟨by decide, by decide⟩ dX7_ofMatchNow_81 ?_
    refine aw_mu mp_mp ?_
    refine aw_dup C rfl dX7_ofMatchNow_82 ?_
    refine aw_bipush C (v := 7) (by decide) dX7_ofMatchNow_83 ?_
    refine aw_aload_n C dX7_ofMatchNow_85 rfl ?_
    refine aw_get C f237 (mp_k hM.mo (nn_ne fo1 hM.mo)) rfl dX7_ofMatchNow_86 ?_
    refine aw_if_eq C (tgt := 96) dX7_ofMatchNow_89 (by decide) (fun c_89 => ?_) (fun c_89 => ?_)
    · refine aw_iconst C (v := 0) (by decide) dX7_ofMatchNow_96 ?_
      refine aw_iastE C mp_s (by decide : (7 : Int32) = nI 7) ⟨by decide, by decide⟩ dX7_ofMatchNow_97 ?_
      refine aw_mu mp_mp ?_
      refine aw_astore_n C dX7_ofMatchNow_98 (by decide) ?_
      refine aw_aload_n C dX7_ofMatchNow_99 rfl ?_
      refine aw_iload_n C dX7_ofMatchNow_100 rfl ?_
      have hw8 : (upd (upd (upd (upd (upd (upd (upd (upd (fun _ => 0) 0 (S.t 1)) 1 (S.t 2)) 2 (S.t 3)) 3 (S.t 4)) 4 (S.t 5)) 5 (S.t 6)) 6 (trF S)) 7 0) w = omF S w := by
        rcases (show w = 0 ∨ w = 1 ∨ w = 2 ∨ w = 3 ∨ w = 4 ∨ w = 5 ∨ w = 6 ∨ w = 7 by omega) with rfl | rfl | rfl | rfl | rfl | rfl | rfl | rfl
        · exact (omF_on h0 (by decide)).symm
        · exact (omF_on h0 (by decide)).symm
        · exact (omF_on h0 (by decide)).symm
        · exact (omF_on h0 (by decide)).symm
        · exact (omF_on h0 (by decide)).symm
        · exact (omF_on h0 (by decide)).symm
        · exact (omF_6 h0).symm
        · exact ((il.symm.trans c_89).symm).trans (omF_7 h0).symm
      refine aw_ialdE C (v := omF S w) mp_s rfl ⟨hw, by decide⟩ hw8 dX7_ofMatchNow_101 ?_
      refine aw_iret C hQe ?_ (by omega) (by omega) dX7_ofMatchNow_102
      exact ⟨rfl, fun a9 e9 h9 => mp_k h9 (nn_ne fo1 h9)⟩
    · refine aw_iconst C (v := 1) (by decide) dX7_ofMatchNow_92 ?_
      refine aw_goto C (tgt := 97) dX7_ofMatchNow_93 (by decide) ?_
      refine aw_iastE C mp_s (by decide : (7 : Int32) = nI 7) ⟨by decide, by decide⟩ dX7_ofMatchNow_97 ?_
      refine aw_mu mp_mp ?_
      refine aw_astore_n C dX7_ofMatchNow_98 (by decide) ?_
      refine aw_aload_n C dX7_ofMatchNow_99 rfl ?_
      refine aw_iload_n C dX7_ofMatchNow_100 rfl ?_
      have hw8 : (upd (upd (upd (upd (upd (upd (upd (upd (fun _ => 0) 0 (S.t 1)) 1 (S.t 2)) 2 (S.t 3)) 3 (S.t 4)) 4 (S.t 5)) 5 (S.t 6)) 6 (trF S)) 7 1) w = omF S w := by
        rcases (show w = 0 ∨ w = 1 ∨ w = 2 ∨ w = 3 ∨ w = 4 ∨ w = 5 ∨ w = 6 ∨ w = 7 by omega) with rfl | rfl | rfl | rfl | rfl | rfl | rfl | rfl
        · exact (omF_on h0 (by decide)).symm
        · exact (omF_on h0 (by decide)).symm
        · exact (omF_on h0 (by decide)).symm
        · exact (omF_on h0 (by decide)).symm
        · exact (omF_on h0 (by decide)).symm
        · exact (omF_on h0 (by decide)).symm
        · exact (omF_6 h0).symm
        · exact ((h8.resolve_left (fun q => c_89 (il.trans q))).1.symm).trans (omF_7 h0).symm
      refine aw_ialdE C (v := omF S w) mp_s rfl ⟨hw, by decide⟩ hw8 dX7_ofMatchNow_101 ?_
      refine aw_iret C hQe ?_ (by omega) (by omega) dX7_ofMatchNow_102
      exact ⟨rfl, fun a9 e9 h9 => mp_k h9 (nn_ne fo1 h9)⟩
set_option maxRecDepth 100000 in
set_option maxHeartbeats 4000000 in
theorem k_X7_ofMatch (B : Base s0) {μ : mu} {K : Nat → Nat → Nat} {e0 : Nat} {S : SS} {X : XS} (hM : RM g K e0 S X μ) (hI : Iv S) {b : Nat} (hR : MR S X b) {w : Int32} (hb : b < 2 ^ 30) : Ct l yX7_ofMatch wsX7_ofMatch (rmOf 4 1 8 120) s0 D (tyL g) [.ref (K 0 0), .int w] μ 1 8 (fun v9 μ' => (∃ r : Int32, v9 = some (.int r) ∧ (omC w = 0 → r = omF S (ix w))) ∧ PMx g K e0 S S (omC w) b μ μ') := by
  refine Ct.of (cc := cX7_ofMatch) (own := RX7) (maxL := 2) (ret := (some .int)) (by decide) rfl rfl (Nat.le_of_ble_eq_true rfl) ?_
  intro p e s m args below meth c Q C hE hnm hQe
  have in_RX7 : ∀ w ∈ u_ws RX7 TX7 22, w ∈ wsX7_ofMatch := by decide +kernel
  have f39 : FL wsX7_ofMatch RX7 39 9 "ArrowFieldModel" RX7 TX7 22 0 := ⟨in_RX7, rfl, by decide, by decide +kernel, Or.inl rfl⟩
  refine aw_aload_n C dX7_ofMatch_0 rfl ?_
  refine aw_iconst C (v := 0) (by decide) dX7_ofMatch_1 ?_
  refine aw_putE C f39 ftX7 (ty := .int) (by decide +kernel) rfl rfl hM.mo (Nat.le_of_ble_eq_true rfl) (fs' := [.int 0, .ref (K 1 0), .ref (K 2 0), .int (S.c 4), .int (S.c 5), .int (S.c 6), .int (S.c 9), .int (S.c 10), .int (S.c 8), .int (S.c 13), .int (S.c 7), .int (S.c 11), .int (S.c 14), .ref (K 3 0), .ref (K 4 0), .ref (K 5 0), .double X.ne, .int (nI X.T), .int X.il, .double X.h, .double X.v, .long X.sm]) rfl dX7_ofMatch_2 ?_
  refine aw_re (P := fun μ1 => RM g K e0 S (X.wth 0) μ1 ∧ FrM K S.nA S.nQ μ μ1) ⟨hM.setX (X.wth 0) rfl rfl rfl, (FrM.rf : FrM K S.nA S.nQ μ μ).mpw (m0 (by decide))⟩ (fun μ1 hq => ?_)
  obtain ⟨hM1, hF1⟩ := hq
  refine aw_iload_n C dX7_ofMatch_5 rfl ?_
  refine aw_iconst C (v := 0) (by decide) dX7_ofMatch_6 ?_
  refine aw_bipush C (v := 7) (by decide) dX7_ofMatch_7 ?_
  refine aw_callS (n := 3) C hE (k_X7_is (x := w) (lo := 0) (hi := 7) B) gX7_ofMatch_X7_is rfl ⟨rfl, rfl⟩ (by decide +kernel) ⟨by decide, by decide⟩ rfl rfl (Nat.le_of_ble_eq_true rfl) dX7_ofMatch_9 ⟨by decide, by decide⟩ (fun v μ' hp => ?_)
  obtain ⟨rfl, hm9⟩ := hp
  replace hm9 := hm9.symm
  subst hm9
  refine aw_st (st' := [.int (if btw w 0 7 = true then 1 else 0)]) rfl ?_
  by_cases b9 : btw w 0 7 = true
  · refine aw_eqi (y := 1) (if_pos b9) ?_
    refine aw_if_eq C (tgt := 23) dX7_ofMatch_12 (by decide) (fun c9 => absurd c9 (by decide)) (fun _ => ?_)
    obtain ⟨w9, hw9, rfl⟩ := btw0 (n := 7) b9 (by decide)
    refine aw_aload_n C dX7_ofMatch_15 rfl ?_
    refine aw_iload_n C dX7_ofMatch_16 rfl ?_
    refine aw_callV (n := 1) C hE (ci := 9) (q := (RX7, TX7, 22)) (k_X7_ofMatchNow (w := w9) B hM1 hI (show MR S _ b from hR) hw9 hb) gX7_ofMatch_X7_ofMatchNow rfl ⟨rfl, rfl⟩ (by decide +kernel) ⟨by decide, by decide⟩ rfl rfl hM1.mo rfl (Nat.le_of_ble_eq_true rfl) dX7_ofMatch_17 ⟨by decide, by decide⟩ (fun v μ' hp => ?_)
    obtain ⟨rfl, hk2⟩ := hp
    have hM2 := hM1.keep hk2
    have hF2 := hF1.kp hk2
    refine aw_st (st' := [.int (omF S w9)]) rfl ?_
    refine aw_re (P := fun μ1 => RM g K e0 S (X.wth 0) μ1 ∧ FrM K S.nA S.nQ μ μ1) ⟨hM2, hF2⟩ (fun μ3 hq => ?_)
    obtain ⟨hM3, hF3⟩ := hq
    refine aw_goto C (tgt := 28) dX7_ofMatch_20 (by decide) ?_
    refine aw_iret C hQe ?_ (by omega) (by omega) dX7_ofMatch_28
    have hc : omC (nI w9) = 0 := by simp [omC, b9]
    rw [hc]
    rw [show ix (nI w9) = w9 from ix_nI hw9 (by decide)]
    exact ⟨⟨_, rfl, fun _ => rfl⟩, ⟨X.wth 0, hM3, hR, rfl⟩, hF3⟩
  · refine aw_eqi (y := 0) (if_neg b9) ?_
    refine aw_if_eq C (tgt := 23) dX7_ofMatch_12 (by decide) (fun _ => ?_) (fun c9 => absurd (by decide) c9)
    refine aw_aload_n C dX7_ofMatch_23 rfl ?_
    refine aw_iconst C (v := 1) (by decide) dX7_ofMatch_24 ?_
    refine aw_callV (n := 1) C hE (ci := 9) (q := (RX7, TX7, 22)) (k_X7_refuse (x := 1) B hM1) gX7_ofMatch_X7_refuse rfl ⟨rfl, rfl⟩ (by decide +kernel) ⟨by decide, by decide⟩ rfl rfl hM1.mo rfl (Nat.le_of_ble_eq_true rfl) dX7_ofMatch_25 ⟨by decide, by decide⟩ (fun v μ' hp => ?_)
    obtain ⟨rfl, hM2, hG2⟩ := hp
    have hF2 : FrM K S.nA S.nQ μ _ := hF1.tr hG2
    refine aw_st (st' := [.int 0]) rfl ?_
    refine aw_iret C hQe ?_ (by omega) (by omega) dX7_ofMatch_28
    have hc : omC w = 1 := by simp [omC, b9]
    rw [hc]
    exact ⟨⟨_, rfl, fun q => absurd q (by decide)⟩, ⟨(X.wth 0).wth 1, hM2, hR, rfl⟩, hF2⟩
set_option maxRecDepth 100000 in
set_option maxHeartbeats 4000000 in
theorem k_X7_winner (B : Base s0) {μ : mu} {K : Nat → Nat → Nat} {e0 : Nat} {S : SS} {X : XS} (hM : RM g K e0 S X μ) (hI : Iv S) {b : Nat} (hR : MR S X b)  : Ct l yX7_winner wsX7_winner (rmOf 0 0 0 0) s0 D (tyL g) [.ref (K 0 0)] μ 0 0 (fun v9 μ' => (∃ r : Int32, v9 = some (.int r) ∧ ((0 : Nat) = 0 → r = S.c 14)) ∧ PMx g K e0 S S (0 : Nat) b μ μ') := by
  refine Ct.of (cc := cX7_winner) (own := RX7) (maxL := 1) (ret := (some .int)) (by decide) rfl rfl (Nat.le_of_ble_eq_true rfl) ?_
  intro p e s m args below meth c Q C hE hnm hQe
  have in_RX7 : ∀ w ∈ u_ws RX7 TX7 22, w ∈ wsX7_winner := by decide +kernel
  have f39 : FL wsX7_winner RX7 39 9 "ArrowFieldModel" RX7 TX7 22 0 := ⟨in_RX7, rfl, by decide, by decide +kernel, Or.inl rfl⟩
  have f26 : FL wsX7_winner RX7 26 9 "ArrowFieldModel" RX7 TX7 22 12 := ⟨in_RX7, rfl, by decide, by decide +kernel, Or.inl rfl⟩
  refine aw_aload_n C dX7_winner_0 rfl ?_
  refine aw_iconst C (v := 0) (by decide) dX7_winner_1 ?_
  refine aw_putE C f39 ftX7 (ty := .int) (by decide +kernel) rfl rfl hM.mo (Nat.le_of_ble_eq_true rfl) (fs' := [.int 0, .ref (K 1 0), .ref (K 2 0), .int (S.c 4), .int (S.c 5), .int (S.c 6), .int (S.c 9), .int (S.c 10), .int (S.c 8), .int (S.c 13), .int (S.c 7), .int (S.c 11), .int (S.c 14), .ref (K 3 0), .ref (K 4 0), .ref (K 5 0), .double X.ne, .int (nI X.T), .int X.il, .double X.h, .double X.v, .long X.sm]) rfl dX7_winner_2 ?_
  refine aw_re (P := fun μ1 => RM g K e0 S (X.wth 0) μ1 ∧ FrM K S.nA S.nQ μ μ1) ⟨hM.setX (X.wth 0) rfl rfl rfl, (FrM.rf : FrM K S.nA S.nQ μ μ).mpw (m0 (by decide))⟩ (fun μ1 hq => ?_)
  obtain ⟨hM1, hF1⟩ := hq
  refine aw_aload_n C dX7_winner_5 rfl ?_
  refine aw_get C f26 hM1.mo rfl dX7_winner_6 ?_
  refine aw_iret C hQe ?_ (by omega) (by omega) dX7_winner_9
  exact ⟨⟨_, rfl, fun _ => rfl⟩, ⟨_, hM1, hR, rfl⟩, hF1⟩
set_option maxRecDepth 100000 in
set_option maxHeartbeats 4000000 in
theorem k_X7_isReady (B : Base s0) {μ : mu} {K : Nat → Nat → Nat} {e0 : Nat} {S : SS} {X : XS} (hM : RM g K e0 S X μ) (hI : Iv S) {j : Nat} (hj : j < S.nA) : Ct l yX7_isReady wsX7_isReady (rmOf 3 0 0 120) s0 D (tyL g) [.ref (K 0 0), .int (nI j)] μ 0 0 (fun v9 μ' => v9 = some (.int (if S.A j 5 = -1 then 0 else 1)) ∧ μ' = μ) := by
  refine Ct.of (cc := cX7_isReady) (own := RX7) (maxL := 2) (ret := (some .boolean)) (by decide) rfl rfl (Nat.le_of_ble_eq_true rfl) ?_
  intro p e s m args below meth c Q C hE hnm hQe
  have in_RX7 : ∀ w ∈ u_ws RX7 TX7 22, w ∈ wsX7_isReady := by decide +kernel
  have in_RX5 : ∀ w ∈ u_ws RX5 TX5 12, w ∈ wsX7_isReady := by decide +kernel
  have f10 : FL wsX7_isReady RX7 10 9 "ArrowFieldModel" RX7 TX7 22 1 := ⟨in_RX7, rfl, by decide, by decide +kernel, Or.inl rfl⟩
  have f56 : FN s0 wsX7_isReady RX7 56 7 "ArrowFieldModel$Archer" RX5 TX5 12 5 "ArrowFieldModel" := ⟨in_RX5, rfl, by decide, B.fnRX7_56, rfl⟩
  refine aw_aload_n C dX7_isReady_0 rfl ?_
  refine aw_get C f10 hM.mo rfl dX7_isReady_1 ?_
  refine aw_iload_n C dX7_isReady_4 rfl ?_
  refine aw_callV (n := 1) C hE (ci := 1) (q := (RJx4a65c, TJx4a65c, 3)) (k_getA B hM hI hj) gX7_isReady_Jx4a65c_get_915e3 rfl ⟨rfl, rfl⟩ (by decide +kernel) ⟨by decide, by decide⟩ rfl rfl hM.aL rfl (Nat.le_of_ble_eq_true rfl) dX7_isReady_5 ⟨by decide, by decide⟩ (fun v μ' hp => ?_)
  obtain ⟨rfl, hm9⟩ := hp
  replace hm9 := hm9.symm
  subst hm9
  refine aw_st (st' := [.ref (K 8 j)]) rfl ?_
  refine aw_cast C (ci := 7) (by decide +kernel) (va_Nw.warmC hE.1 B.caXa) rfl (hM.xa hj) dX7_isReady_8 ?_
  refine aw_getN C hE f56 (hM.xa hj) rfl dX7_isReady_11 ?_
  refine aw_iconst C (v := (-1)) (by decide) dX7_isReady_14 ?_
  refine aw_icmp_eq C (tgt := 22) dX7_isReady_15 (by decide) (fun c_15 => ?_) (fun c_15 => ?_)
  · refine aw_iconst C (v := 0) (by decide) dX7_isReady_22 ?_
    refine aw_zret C hQe rfl ?_ (by omega) (by omega) dX7_isReady_23
    exact ⟨by rw [if_pos c_15], rfl⟩
  · refine aw_iconst C (v := 1) (by decide) dX7_isReady_18 ?_
    refine aw_goto C (tgt := 23) dX7_isReady_19 (by decide) ?_
    refine aw_zret C hQe rfl ?_ (by omega) (by omega) dX7_isReady_23
    exact ⟨by rw [if_neg c_15], rfl⟩
set_option maxRecDepth 100000 in
set_option maxHeartbeats 4000000 in
theorem k_X7_fly_ (B : Base s0) {μ : mu} {K : Nat → Nat → Nat} {e0 : Nat} {S : SS} {X : XS} (hM : RM g K e0 S X μ) (hI : Iv S) {j u : Nat} (hj : j < S.nA) (hu : u < S.nQ) (huq : S.A j 5 = nI u) {x di : Int32} (hdi : di.toInt ≤ 90) : Ct l yX7_fly_ wsX7_fly_ (rmOf 3 0 0 120) s0 D (tyL g) [.ref (K 0 0), .int (nI j), .int x, .int di] μ 0 0 (fun v9 μ' => v9 = none ∧ RM g K e0 S ((X.wh (flH S j u x di)).wv (flV S j u x di)) μ' ∧ FrM K S.nA S.nQ μ μ') := by
  refine Ct.of (cc := cX7_fly_) (own := RX7) (maxL := 5) (ret := none) (by decide) rfl rfl (Nat.le_of_ble_eq_true rfl) ?_
  intro p e s m args below meth c Q C hE hnm hQe
  have in_RX7 : ∀ w ∈ u_ws RX7 TX7 22, w ∈ wsX7_fly_ := by decide +kernel
  have in_RX5 : ∀ w ∈ u_ws RX5 TX5 12, w ∈ wsX7_fly_ := by decide +kernel
  have f10 : FL wsX7_fly_ RX7 10 9 "ArrowFieldModel" RX7 TX7 22 1 := ⟨in_RX7, rfl, by decide, by decide +kernel, Or.inl rfl⟩
  have f16 : FL wsX7_fly_ RX7 16 9 "ArrowFieldModel" RX7 TX7 22 2 := ⟨in_RX7, rfl, by decide, by decide +kernel, Or.inl rfl⟩
  have f56 : FN s0 wsX7_fly_ RX7 56 7 "ArrowFieldModel$Archer" RX5 TX5 12 5 "ArrowFieldModel" := ⟨in_RX5, rfl, by decide, B.fnRX7_56, rfl⟩
  refine aw_aload_n C dX7_fly__0 rfl ?_
  refine aw_get C f10 hM.mo rfl dX7_fly__1 ?_
  refine aw_iload_n C dX7_fly__4 rfl ?_
  refine aw_callV (n := 1) C hE (ci := 1) (q := (RJx4a65c, TJx4a65c, 3)) (k_getA B hM hI hj) gX7_fly__Jx4a65c_get_915e3 rfl ⟨rfl, rfl⟩ (by decide +kernel) ⟨by decide, by decide⟩ rfl rfl hM.aL rfl (Nat.le_of_ble_eq_true rfl) dX7_fly__5 ⟨by decide, by decide⟩ (fun v μ' hp => ?_)
  obtain ⟨rfl, hm9⟩ := hp
  replace hm9 := hm9.symm
  subst hm9
  refine aw_st (st' := [.ref (K 8 j)]) rfl ?_
  refine aw_cast C (ci := 7) (by decide +kernel) (va_Nw.warmC hE.1 B.caXa) rfl (hM.xa hj) dX7_fly__8 ?_
  refine aw_astore C dX7_fly__11 (by decide) ?_
  refine aw_aload_n C dX7_fly__13 rfl ?_
  refine aw_aload C dX7_fly__14 rfl ?_
  refine aw_aload_n C dX7_fly__16 rfl ?_
  refine aw_get C f16 hM.mo rfl dX7_fly__17 ?_
  refine aw_aload C dX7_fly__20 rfl ?_
  refine aw_getN C hE f56 (hM.xa hj) rfl dX7_fly__22 ?_
  refine aw_eqi (y := nI u) huq ?_
  refine aw_callV (n := 1) C hE (ci := 1) (q := (RJx4a65c, TJx4a65c, 3)) (k_getQ B hM hI hu) gX7_fly__Jx4a65c_get_915e3 rfl ⟨rfl, rfl⟩ (by decide +kernel) ⟨by decide, by decide⟩ rfl rfl hM.qL rfl (Nat.le_of_ble_eq_true rfl) dX7_fly__25 ⟨by decide, by decide⟩ (fun v μ' hp => ?_)
  obtain ⟨rfl, hm9⟩ := hp
  replace hm9 := hm9.symm
  subst hm9
  refine aw_st (st' := [.ref (K 9 u), .ref (K 8 j), .ref (K 0 0)]) rfl ?_
  refine aw_cast C (ci := 8) (by decide +kernel) (va_Nw.warmC hE.1 B.caXq) rfl (hM.xq hu) dX7_fly__28 ?_
  refine aw_iload_n C dX7_fly__31 rfl ?_
  refine aw_iload_n C dX7_fly__32 rfl ?_
  refine aw_callV (n := 4) C hE (ci := 9) (q := (RX7, TX7, 22)) (k_X7_fly (j := j) (u := u) (sight := x) (di := di) B hM hI hj hu hdi) gX7_fly__X7_fly rfl ⟨rfl, rfl⟩ (by decide +kernel) ⟨by decide, by decide⟩ rfl rfl hM.mo rfl (Nat.le_of_ble_eq_true rfl) dX7_fly__33 ⟨by decide, by decide⟩ (fun v μ' hp => ?_)
  obtain ⟨rfl, hM1, hG1⟩ := hp
  have hF1 : FrM K S.nA S.nQ μ _ := (FrM.rf : FrM K S.nA S.nQ μ μ).tr hG1
  refine aw_st (st' := []) rfl ?_
  refine aw_re (P := fun μ1 => RM g K e0 S ((X.wh (flH S j u x di)).wv (flV S j u x di)) μ1 ∧ FrM K S.nA S.nQ μ μ1) ⟨hM1, hF1⟩ (fun μ2 hq => ?_)
  obtain ⟨hM2, hF2⟩ := hq
  refine aw_vret C hQe ?_ (by omega) (by omega) dX7_fly__36
  exact ⟨rfl, hM2, hF2⟩
set_option maxRecDepth 100000 in
set_option maxHeartbeats 4000000 in
theorem k_X7_wouldHit (B : Base s0) {μ : mu} {K : Nat → Nat → Nat} {e0 : Nat} {S : SS} {X : XS} (hM : RM g K e0 S X μ) (hI : Iv S) {b : Nat} (hR : MR S X b) {x w b9 : Int32} : Ct l yX7_wouldHit wsX7_wouldHit (rmOf 4 0 0 180) s0 D (tyL g) [.ref (K 0 0), .int x, .int w, .int b9] μ 0 0 (fun v9 μ' => (∃ r : UInt64, v9 = some (.double r) ∧ (whC S x w = 0 → r = whF S (ix x) w b9)) ∧ PMx g K e0 S S (whC S x w) b μ μ') := by
  refine Ct.of (cc := cX7_wouldHit) (own := RX7) (maxL := 4) (ret := (some .double)) (by decide) rfl rfl (Nat.le_of_ble_eq_true rfl) ?_
  intro p e s m args below meth c Q C hE hnm hQe
  have in_RX7 : ∀ w ∈ u_ws RX7 TX7 22, w ∈ wsX7_wouldHit := by decide +kernel
  have f39 : FL wsX7_wouldHit RX7 39 9 "ArrowFieldModel" RX7 TX7 22 0 := ⟨in_RX7, rfl, by decide, by decide +kernel, Or.inl rfl⟩
  have f19 : FL wsX7_wouldHit RX7 19 9 "ArrowFieldModel" RX7 TX7 22 3 := ⟨in_RX7, rfl, by decide, by decide +kernel, Or.inl rfl⟩
  have f148 : FL wsX7_wouldHit RX7 148 9 "ArrowFieldModel" RX7 TX7 22 19 := ⟨in_RX7, rfl, by decide, by decide +kernel, Or.inl rfl⟩
  have f152 : FL wsX7_wouldHit RX7 152 9 "ArrowFieldModel" RX7 TX7 22 20 := ⟨in_RX7, rfl, by decide, by decide +kernel, Or.inl rfl⟩
  refine aw_aload_n C dX7_wouldHit_0 rfl ?_
  refine aw_aload_n C dX7_wouldHit_1 rfl ?_
  refine aw_iload_n C dX7_wouldHit_2 rfl ?_
  refine aw_callV (n := 1) C hE (ci := 9) (q := (RX7, TX7, 22)) (k_X7_isArcher (x := x) B hM hI) gX7_wouldHit_X7_isArcher rfl ⟨rfl, rfl⟩ (by decide +kernel) ⟨by decide, by decide⟩ rfl rfl hM.mo rfl (Nat.le_of_ble_eq_true rfl) dX7_wouldHit_3 ⟨by decide, by decide⟩ (fun v μ' hp => ?_)
  obtain ⟨rfl, hm9⟩ := hp
  replace hm9 := hm9.symm
  subst hm9
  refine aw_st (st' := [.int (if inb x S.nA = true then 1 else 0), .ref (K 0 0)]) rfl ?_
  by_cases b3 : inb x S.nA = true
  · refine aw_eqi (y := 1) (if_pos b3) ?_
    refine aw_if_ne C (tgt := 13) dX7_wouldHit_6 (by decide) (fun _ => ?_) (fun c9 => absurd c9 (by decide))
    obtain ⟨j, hj, rfl⟩ := inb_of b3 (by have := hI.A6; omega)
    refine aw_iload_n C dX7_wouldHit_13 rfl ?_
    refine aw_iconst C (v := 0) (by decide) dX7_wouldHit_14 ?_
    refine aw_bipush C (v := 127) (by decide) dX7_wouldHit_15 ?_
    refine aw_callS (n := 3) C hE (k_X7_is (x := w) (lo := 0) (hi := 127) B) gX7_wouldHit_X7_is rfl ⟨rfl, rfl⟩ (by decide +kernel) ⟨by decide, by decide⟩ rfl rfl (Nat.le_of_ble_eq_true rfl) dX7_wouldHit_17 ⟨by decide, by decide⟩ (fun v μ' hp => ?_)
    obtain ⟨rfl, hm9⟩ := hp
    replace hm9 := hm9.symm
    subst hm9
    refine aw_st (st' := [.int (if btw w 0 127 = true then 1 else 0), .ref (K 0 0)]) rfl ?_
    by_cases b17 : btw w 0 127 = true
    · refine aw_eqi (y := 1) (if_pos b17) ?_
      refine aw_if_ne C (tgt := 27) dX7_wouldHit_20 (by decide) (fun _ => ?_) (fun c9 => absurd c9 (by decide))
      refine aw_aload_n C dX7_wouldHit_27 rfl ?_
      refine aw_iload_n C dX7_wouldHit_28 rfl ?_
      refine aw_callV (n := 1) C hE (ci := 9) (q := (RX7, TX7, 22)) (k_X7_isReady B hM hI hj) gX7_wouldHit_X7_isReady rfl ⟨rfl, rfl⟩ (by decide +kernel) ⟨by decide, by decide⟩ rfl rfl hM.mo rfl (Nat.le_of_ble_eq_true rfl) dX7_wouldHit_29 ⟨by decide, by decide⟩ (fun v μ' hp => ?_)
      obtain ⟨rfl, hm9⟩ := hp
      replace hm9 := hm9.symm
      subst hm9
      refine aw_st (st' := [.int (if S.A j 5 = -1 then 0 else 1), .ref (K 0 0)]) rfl ?_
      by_cases bd : S.A j 5 = -1
      · refine aw_eqi (y := 0) (if_pos bd) ?_
        refine aw_if_eq C (tgt := 39) dX7_wouldHit_32 (by decide) (fun _ => ?_) (fun c9 => absurd (by decide) c9)
        refine aw_iconst C (v := 3) (by decide) dX7_wouldHit_39 ?_
        refine aw_putE C f39 ftX7 (ty := .int) (by decide +kernel) rfl rfl hM.mo (Nat.le_of_ble_eq_true rfl) (fs' := [.int 3, .ref (K 1 0), .ref (K 2 0), .int (S.c 4), .int (S.c 5), .int (S.c 6), .int (S.c 9), .int (S.c 10), .int (S.c 8), .int (S.c 13), .int (S.c 7), .int (S.c 11), .int (S.c 14), .ref (K 3 0), .ref (K 4 0), .ref (K 5 0), .double X.ne, .int (nI X.T), .int X.il, .double X.h, .double X.v, .long X.sm]) rfl dX7_wouldHit_40 ?_
        refine aw_re (P := fun μ1 => RM g K e0 S (X.wth 3) μ1 ∧ FrM K S.nA S.nQ μ μ1) ⟨hM.setX (X.wth 3) rfl rfl rfl, (FrM.rf : FrM K S.nA S.nQ μ μ).mpw (m0 (by decide))⟩ (fun μ1 hq => ?_)
        obtain ⟨hM1, hF1⟩ := hq
        refine aw_aload_n C dX7_wouldHit_43 rfl ?_
        refine aw_get C f39 hM1.mo rfl dX7_wouldHit_44 ?_
        refine aw_eqi (y := 3) rfl ?_
        refine aw_if_le C (tgt := 52) dX7_wouldHit_47 (by decide) (fun c9 => absurd c9 (by decide)) (fun _ => ?_)
        refine aw_dconst0 C dX7_wouldHit_50 ?_
        refine aw_dret C hQe ?_ (by omega) (by omega) dX7_wouldHit_51
        have ej6 : ix (nI j) = j := ix_nI hj (by have := hI.A6; omega)
        have hc : whC S (nI j) w = 3 := by simp [whC, b3, b17, bd, ej6]
        rw [hc]
        exact ⟨⟨_, rfl, fun q => absurd q (by decide)⟩, ⟨X.wth 3, hM1, hR, rfl⟩, hF1⟩
      · refine aw_eqi (y := 1) (if_neg bd) ?_
        refine aw_if_eq C (tgt := 39) dX7_wouldHit_32 (by decide) (fun c9 => absurd c9 (by decide)) (fun _ => ?_)
        refine aw_iconst C (v := 0) (by decide) dX7_wouldHit_35 ?_
        refine aw_goto C (tgt := 40) dX7_wouldHit_36 (by decide) ?_
        refine aw_putE C f39 ftX7 (ty := .int) (by decide +kernel) rfl rfl hM.mo (Nat.le_of_ble_eq_true rfl) (fs' := [.int 0, .ref (K 1 0), .ref (K 2 0), .int (S.c 4), .int (S.c 5), .int (S.c 6), .int (S.c 9), .int (S.c 10), .int (S.c 8), .int (S.c 13), .int (S.c 7), .int (S.c 11), .int (S.c 14), .ref (K 3 0), .ref (K 4 0), .ref (K 5 0), .double X.ne, .int (nI X.T), .int X.il, .double X.h, .double X.v, .long X.sm]) rfl dX7_wouldHit_40 ?_
        refine aw_re (P := fun μ1 => RM g K e0 S (X.wth 0) μ1 ∧ FrM K S.nA S.nQ μ μ1) ⟨hM.setX (X.wth 0) rfl rfl rfl, (FrM.rf : FrM K S.nA S.nQ μ μ).mpw (m0 (by decide))⟩ (fun μ1 hq => ?_)
        obtain ⟨hM1, hF1⟩ := hq
        refine aw_aload_n C dX7_wouldHit_43 rfl ?_
        refine aw_get C f39 hM1.mo rfl dX7_wouldHit_44 ?_
        refine aw_eqi (y := 0) rfl ?_
        refine aw_if_le C (tgt := 52) dX7_wouldHit_47 (by decide) (fun _ => ?_) (fun c9 => absurd (by decide) c9)
        obtain ⟨u, hu, huq⟩ := (hI.2.2.2.1 j hj).2.2.resolve_left bd
        have eu6 : ix (nI u) = u := ix_nI hu (by have := hI.Q6; omega)
        refine aw_aload_n C dX7_wouldHit_52 rfl ?_
        refine aw_iload_n C dX7_wouldHit_53 rfl ?_
        refine aw_iload_n C dX7_wouldHit_54 rfl ?_
        refine aw_aload_n C dX7_wouldHit_55 rfl ?_
        refine aw_get C f19 hM1.mo rfl dX7_wouldHit_56 ?_
        refine aw_callV (n := 3) C hE (ci := 9) (q := (RX7, TX7, 22)) (k_X7_fly_ (u := u) (x := w) (di := S.c 4) B hM1 hI hj hu huq hI.2.1.2) gX7_wouldHit_X7_fly_ rfl ⟨rfl, rfl⟩ (by decide +kernel) ⟨by decide, by decide⟩ rfl rfl hM1.mo rfl (Nat.le_of_ble_eq_true rfl) dX7_wouldHit_59 ⟨by decide, by decide⟩ (fun v μ' hp => ?_)
        obtain ⟨rfl, hM2, hG2⟩ := hp
        have hF2 : FrM K S.nA S.nQ μ _ := hF1.tr hG2
        refine aw_st (st' := []) rfl ?_
        refine aw_re (P := fun μ1 => RM g K e0 S (((X.wth 0).wh (flH S j u w (S.c 4))).wv (flV S j u w (S.c 4))) μ1 ∧ FrM K S.nA S.nQ μ μ1) ⟨hM2, hF2⟩ (fun μ3 hq => ?_)
        obtain ⟨hM3, hF3⟩ := hq
        refine aw_iload_n C dX7_wouldHit_62 rfl ?_
        refine aw_if_eq C (tgt := 73) dX7_wouldHit_63 (by decide) (fun c_63 => ?_) (fun c_63 => ?_)
        · refine aw_aload_n C dX7_wouldHit_73 rfl ?_
          refine aw_get C f148 hM3.mo rfl dX7_wouldHit_74 ?_
          refine aw_dret C hQe ?_ (by omega) (by omega) dX7_wouldHit_77
          have ej6 : ix (nI j) = j := ix_nI hj (by have := hI.A6; omega)
          have hc : whC S (nI j) w = 0 := by simp [whC, b3, b17, bd, c_63, ej6]
          rw [hc]
          rw [ej6]
          exact ⟨⟨_, rfl, fun _ => by unfold whF; rw [huq, eu6, if_pos (show b9 = 0 from c_63)]⟩, ⟨((X.wth 0).wh (flH S j u w (S.c 4))).wv (flV S j u w (S.c 4)), hM3, hR, rfl⟩, hF3⟩
        · refine aw_aload_n C dX7_wouldHit_66 rfl ?_
          refine aw_get C f152 hM3.mo rfl dX7_wouldHit_67 ?_
          refine aw_goto C (tgt := 77) dX7_wouldHit_70 (by decide) ?_
          refine aw_dret C hQe ?_ (by omega) (by omega) dX7_wouldHit_77
          have ej6 : ix (nI j) = j := ix_nI hj (by have := hI.A6; omega)
          have hc : whC S (nI j) w = 0 := by simp [whC, b3, b17, bd, c_63, ej6]
          rw [hc]
          rw [ej6]
          exact ⟨⟨_, rfl, fun _ => by unfold whF; rw [huq, eu6, if_neg (show ¬ b9 = 0 from c_63)]⟩, ⟨((X.wth 0).wh (flH S j u w (S.c 4))).wv (flV S j u w (S.c 4)), hM3, hR, rfl⟩, hF3⟩
    · refine aw_eqi (y := 0) (if_neg b17) ?_
      refine aw_if_ne C (tgt := 27) dX7_wouldHit_20 (by decide) (fun c9 => absurd (by decide) c9) (fun _ => ?_)
      refine aw_iconst C (v := 2) (by decide) dX7_wouldHit_23 ?_
      refine aw_goto C (tgt := 40) dX7_wouldHit_24 (by decide) ?_
      refine aw_putE C f39 ftX7 (ty := .int) (by decide +kernel) rfl rfl hM.mo (Nat.le_of_ble_eq_true rfl) (fs' := [.int 2, .ref (K 1 0), .ref (K 2 0), .int (S.c 4), .int (S.c 5), .int (S.c 6), .int (S.c 9), .int (S.c 10), .int (S.c 8), .int (S.c 13), .int (S.c 7), .int (S.c 11), .int (S.c 14), .ref (K 3 0), .ref (K 4 0), .ref (K 5 0), .double X.ne, .int (nI X.T), .int X.il, .double X.h, .double X.v, .long X.sm]) rfl dX7_wouldHit_40 ?_
      refine aw_re (P := fun μ1 => RM g K e0 S (X.wth 2) μ1 ∧ FrM K S.nA S.nQ μ μ1) ⟨hM.setX (X.wth 2) rfl rfl rfl, (FrM.rf : FrM K S.nA S.nQ μ μ).mpw (m0 (by decide))⟩ (fun μ1 hq => ?_)
      obtain ⟨hM1, hF1⟩ := hq
      refine aw_aload_n C dX7_wouldHit_43 rfl ?_
      refine aw_get C f39 hM1.mo rfl dX7_wouldHit_44 ?_
      refine aw_eqi (y := 2) rfl ?_
      refine aw_if_le C (tgt := 52) dX7_wouldHit_47 (by decide) (fun c9 => absurd c9 (by decide)) (fun _ => ?_)
      refine aw_dconst0 C dX7_wouldHit_50 ?_
      refine aw_dret C hQe ?_ (by omega) (by omega) dX7_wouldHit_51
      have hc : whC S (nI j) w = 2 := by simp [whC, b3, b17]
      rw [hc]
      exact ⟨⟨_, rfl, fun q => absurd q (by decide)⟩, ⟨X.wth 2, hM1, hR, rfl⟩, hF1⟩
  · refine aw_eqi (y := 0) (if_neg b3) ?_
    refine aw_if_ne C (tgt := 13) dX7_wouldHit_6 (by decide) (fun c9 => absurd (by decide) c9) (fun _ => ?_)
    refine aw_iconst C (v := 1) (by decide) dX7_wouldHit_9 ?_
    refine aw_goto C (tgt := 40) dX7_wouldHit_10 (by decide) ?_
    refine aw_putE C f39 ftX7 (ty := .int) (by decide +kernel) rfl rfl hM.mo (Nat.le_of_ble_eq_true rfl) (fs' := [.int 1, .ref (K 1 0), .ref (K 2 0), .int (S.c 4), .int (S.c 5), .int (S.c 6), .int (S.c 9), .int (S.c 10), .int (S.c 8), .int (S.c 13), .int (S.c 7), .int (S.c 11), .int (S.c 14), .ref (K 3 0), .ref (K 4 0), .ref (K 5 0), .double X.ne, .int (nI X.T), .int X.il, .double X.h, .double X.v, .long X.sm]) rfl dX7_wouldHit_40 ?_
    refine aw_re (P := fun μ1 => RM g K e0 S (X.wth 1) μ1 ∧ FrM K S.nA S.nQ μ μ1) ⟨hM.setX (X.wth 1) rfl rfl rfl, (FrM.rf : FrM K S.nA S.nQ μ μ).mpw (m0 (by decide))⟩ (fun μ1 hq => ?_)
    obtain ⟨hM1, hF1⟩ := hq
    refine aw_aload_n C dX7_wouldHit_43 rfl ?_
    refine aw_get C f39 hM1.mo rfl dX7_wouldHit_44 ?_
    refine aw_eqi (y := 1) rfl ?_
    refine aw_if_le C (tgt := 52) dX7_wouldHit_47 (by decide) (fun c9 => absurd c9 (by decide)) (fun _ => ?_)
    refine aw_dconst0 C dX7_wouldHit_50 ?_
    refine aw_dret C hQe ?_ (by omega) (by omega) dX7_wouldHit_51
    have hc : whC S x w = 1 := by simp [whC, b3]
    rw [hc]
    exact ⟨⟨_, rfl, fun q => absurd q (by decide)⟩, ⟨X.wth 1, hM1, hR, rfl⟩, hF1⟩
set_option maxRecDepth 100000 in
set_option maxHeartbeats 4000000 in
theorem k_X7_wouldScore (B : Base s0) {μ : mu} {K : Nat → Nat → Nat} {e0 : Nat} {S : SS} {X : XS} (hM : RM g K e0 S X μ) (hI : Iv S) {b : Nat} (hR : MR S X b) {x : Int32} : Ct l yX7_wouldScore wsX7_wouldScore (rmOf 4 0 0 190) s0 D (tyL g) [.ref (K 0 0), .int x] μ 0 0 (fun v9 μ' => (∃ r : Int32, v9 = some (.int r) ∧ (rdC S x = 0 → r = wsF S (ix x))) ∧ PMx g K e0 S S (rdC S x) b μ μ') := by
  refine Ct.of (cc := cX7_wouldScore) (own := RX7) (maxL := 2) (ret := (some .int)) (by decide) rfl rfl (Nat.le_of_ble_eq_true rfl) ?_
  intro p e s m args below meth c Q C hE hnm hQe
  have in_RX7 : ∀ w ∈ u_ws RX7 TX7 22, w ∈ wsX7_wouldScore := by decide +kernel
  have in_RX5 : ∀ w ∈ u_ws RX5 TX5 12, w ∈ wsX7_wouldScore := by decide +kernel
  have f39 : FL wsX7_wouldScore RX7 39 9 "ArrowFieldModel" RX7 TX7 22 0 := ⟨in_RX7, rfl, by decide, by decide +kernel, Or.inl rfl⟩
  have f10 : FL wsX7_wouldScore RX7 10 9 "ArrowFieldModel" RX7 TX7 22 1 := ⟨in_RX7, rfl, by decide, by decide +kernel, Or.inl rfl⟩
  have f97 : FN s0 wsX7_wouldScore RX7 97 7 "ArrowFieldModel$Archer" RX5 TX5 12 2 "ArrowFieldModel" := ⟨in_RX5, rfl, by decide, B.fnRX7_97, rfl⟩
  have f19 : FL wsX7_wouldScore RX7 19 9 "ArrowFieldModel" RX7 TX7 22 3 := ⟨in_RX7, rfl, by decide, by decide +kernel, Or.inl rfl⟩
  have f148 : FL wsX7_wouldScore RX7 148 9 "ArrowFieldModel" RX7 TX7 22 19 := ⟨in_RX7, rfl, by decide, by decide +kernel, Or.inl rfl⟩
  have f152 : FL wsX7_wouldScore RX7 152 9 "ArrowFieldModel" RX7 TX7 22 20 := ⟨in_RX7, rfl, by decide, by decide +kernel, Or.inl rfl⟩
  refine aw_aload_n C dX7_wouldScore_0 rfl ?_
  refine aw_iconst C (v := 0) (by decide) dX7_wouldScore_1 ?_
  refine aw_putE C f39 ftX7 (ty := .int) (by decide +kernel) rfl rfl hM.mo (Nat.le_of_ble_eq_true rfl) (fs' := [.int 0, .ref (K 1 0), .ref (K 2 0), .int (S.c 4), .int (S.c 5), .int (S.c 6), .int (S.c 9), .int (S.c 10), .int (S.c 8), .int (S.c 13), .int (S.c 7), .int (S.c 11), .int (S.c 14), .ref (K 3 0), .ref (K 4 0), .ref (K 5 0), .double X.ne, .int (nI X.T), .int X.il, .double X.h, .double X.v, .long X.sm]) rfl dX7_wouldScore_2 ?_
  refine aw_re (P := fun μ1 => RM g K e0 S (X.wth 0) μ1 ∧ FrM K S.nA S.nQ μ μ1) ⟨hM.setX (X.wth 0) rfl rfl rfl, (FrM.rf : FrM K S.nA S.nQ μ μ).mpw (m0 (by decide))⟩ (fun μ1 hq => ?_)
  obtain ⟨hM1, hF1⟩ := hq
  refine aw_aload_n C dX7_wouldScore_5 rfl ?_
  refine aw_iload_n C dX7_wouldScore_6 rfl ?_
  refine aw_callV (n := 1) C hE (ci := 9) (q := (RX7, TX7, 22)) (k_X7_isArcher (x := x) B hM1 hI) gX7_wouldScore_X7_isArcher rfl ⟨rfl, rfl⟩ (by decide +kernel) ⟨by decide, by decide⟩ rfl rfl hM1.mo rfl (Nat.le_of_ble_eq_true rfl) dX7_wouldScore_7 ⟨by decide, by decide⟩ (fun v μ' hp => ?_)
  obtain ⟨rfl, hm9⟩ := hp
  replace hm9 := hm9.symm
  subst hm9
  refine aw_st (st' := [.int (if inb x S.nA = true then 1 else 0)]) rfl ?_
  by_cases b7 : inb x S.nA = true
  · refine aw_eqi (y := 1) (if_pos b7) ?_
    refine aw_if_ne C (tgt := 19) dX7_wouldScore_10 (by decide) (fun _ => ?_) (fun c9 => absurd c9 (by decide))
    obtain ⟨j, hj, rfl⟩ := inb_of b7 (by have := hI.A6; omega)
    refine aw_aload_n C dX7_wouldScore_19 rfl ?_
    refine aw_iload_n C dX7_wouldScore_20 rfl ?_
    refine aw_callV (n := 1) C hE (ci := 9) (q := (RX7, TX7, 22)) (k_X7_isReady B hM1 hI hj) gX7_wouldScore_X7_isReady rfl ⟨rfl, rfl⟩ (by decide +kernel) ⟨by decide, by decide⟩ rfl rfl hM1.mo rfl (Nat.le_of_ble_eq_true rfl) dX7_wouldScore_21 ⟨by decide, by decide⟩ (fun v μ' hp => ?_)
    obtain ⟨rfl, hm9⟩ := hp
    replace hm9 := hm9.symm
    subst hm9
    refine aw_st (st' := [.int (if S.A j 5 = -1 then 0 else 1)]) rfl ?_
    by_cases bd : S.A j 5 = -1
    · refine aw_eqi (y := 0) (if_pos bd) ?_
      refine aw_if_ne C (tgt := 33) dX7_wouldScore_24 (by decide) (fun c9 => absurd (by decide) c9) (fun _ => ?_)
      refine aw_aload_n C dX7_wouldScore_27 rfl ?_
      refine aw_iconst C (v := 2) (by decide) dX7_wouldScore_28 ?_
      refine aw_callV (n := 1) C hE (ci := 9) (q := (RX7, TX7, 22)) (k_X7_refuse (x := 2) B hM1) gX7_wouldScore_X7_refuse rfl ⟨rfl, rfl⟩ (by decide +kernel) ⟨by decide, by decide⟩ rfl rfl hM1.mo rfl (Nat.le_of_ble_eq_true rfl) dX7_wouldScore_29 ⟨by decide, by decide⟩ (fun v μ' hp => ?_)
      obtain ⟨rfl, hM2, hG2⟩ := hp
      have hF2 : FrM K S.nA S.nQ μ _ := hF1.tr hG2
      refine aw_st (st' := [.int 0]) rfl ?_
      refine aw_iret C hQe ?_ (by omega) (by omega) dX7_wouldScore_32
      have ej6 : ix (nI j) = j := ix_nI hj (by have := hI.A6; omega)
      have hc : rdC S (nI j) = 2 := by simp [rdC, b7, bd, ej6]
      rw [hc]
      exact ⟨⟨_, rfl, fun q => absurd q (by decide)⟩, ⟨(X.wth 0).wth 2, hM2, hR, rfl⟩, hF2⟩
    · refine aw_eqi (y := 1) (if_neg bd) ?_
      refine aw_if_ne C (tgt := 33) dX7_wouldScore_24 (by decide) (fun _ => ?_) (fun c9 => absurd c9 (by decide))
      obtain ⟨u, hu, huq⟩ := (hI.2.2.2.1 j hj).2.2.resolve_left bd
      have eu6 : ix (nI u) = u := ix_nI hu (by have := hI.Q6; omega)
      refine aw_aload_n C dX7_wouldScore_33 rfl ?_
      have fok := fl_ok hI hj hu (S.A j 2) hI.2.1.2
      have hfr := farF_ok (fok.1.up (by decide)) (fok.2.up (by decide))
      refine aw_iload_n C dX7_wouldScore_34 rfl ?_
      refine aw_aload_n C dX7_wouldScore_35 rfl ?_
      refine aw_get C f10 hM1.mo rfl dX7_wouldScore_36 ?_
      refine aw_iload_n C dX7_wouldScore_39 rfl ?_
      refine aw_callV (n := 1) C hE (ci := 1) (q := (RJx4a65c, TJx4a65c, 3)) (k_getA B hM1 hI hj) gX7_wouldScore_Jx4a65c_get_915e3 rfl ⟨rfl, rfl⟩ (by decide +kernel) ⟨by decide, by decide⟩ rfl rfl hM1.aL rfl (Nat.le_of_ble_eq_true rfl) dX7_wouldScore_40 ⟨by decide, by decide⟩ (fun v μ' hp => ?_)
      obtain ⟨rfl, hm9⟩ := hp
      replace hm9 := hm9.symm
      subst hm9
      refine aw_st (st' := [.ref (K 8 j), .int (nI j), .ref (K 0 0)]) rfl ?_
      refine aw_cast C (ci := 7) (by decide +kernel) (va_Nw.warmC hE.1 B.caXa) rfl (hM1.xa hj) dX7_wouldScore_43 ?_
      refine aw_getN C hE f97 (hM1.xa hj) rfl dX7_wouldScore_46 ?_
      refine aw_aload_n C dX7_wouldScore_49 rfl ?_
      refine aw_get C f19 hM1.mo rfl dX7_wouldScore_50 ?_
      refine aw_callV (n := 3) C hE (ci := 9) (q := (RX7, TX7, 22)) (k_X7_fly_ (u := u) (x := (S.A j 2)) (di := S.c 4) B hM1 hI hj hu huq hI.2.1.2) gX7_wouldScore_X7_fly_ rfl ⟨rfl, rfl⟩ (by decide +kernel) ⟨by decide, by decide⟩ rfl rfl hM1.mo rfl (Nat.le_of_ble_eq_true rfl) dX7_wouldScore_53 ⟨by decide, by decide⟩ (fun v μ' hp => ?_)
      obtain ⟨rfl, hM2, hG2⟩ := hp
      have hF2 : FrM K S.nA S.nQ μ _ := hF1.tr hG2
      refine aw_st (st' := []) rfl ?_
      refine aw_re (P := fun μ1 => RM g K e0 S (((X.wth 0).wh (flH S j u (S.A j 2) (S.c 4))).wv (flV S j u (S.A j 2) (S.c 4))) μ1 ∧ FrM K S.nA S.nQ μ μ1) ⟨hM2, hF2⟩ (fun μ3 hq => ?_)
      obtain ⟨hM3, hF3⟩ := hq
      refine aw_aload_n C dX7_wouldScore_56 rfl ?_
      refine aw_aload_n C dX7_wouldScore_57 rfl ?_
      refine aw_get C f148 hM3.mo rfl dX7_wouldScore_58 ?_
      refine aw_aload_n C dX7_wouldScore_61 rfl ?_
      refine aw_get C f148 hM3.mo rfl dX7_wouldScore_62 ?_
      refine aw_dmul C hfr.1 dX7_wouldScore_65 ?_
      refine aw_aload_n C dX7_wouldScore_66 rfl ?_
      refine aw_get C f152 hM3.mo rfl dX7_wouldScore_67 ?_
      refine aw_aload_n C dX7_wouldScore_70 rfl ?_
      refine aw_get C f152 hM3.mo rfl dX7_wouldScore_71 ?_
      refine aw_dmul C hfr.2.1 dX7_wouldScore_74 ?_
      refine aw_dadd C hfr.2.2.1 dX7_wouldScore_75 ?_
      refine aw_callV (n := 1) C hE (ci := 9) (q := (RX7, TX7, 22)) (k_X7_score (far := farF (flH S j u (S.A j 2) (S.c 4)) (flV S j u (S.A j 2) (S.c 4))) B hM3 (hfr.2.2.2.nn (by decide))) gX7_wouldScore_X7_score rfl ⟨rfl, rfl⟩ (by decide +kernel) ⟨by decide, by decide⟩ rfl rfl hM3.mo rfl (Nat.le_of_ble_eq_true rfl) dX7_wouldScore_76 ⟨by decide, by decide⟩ (fun v μ' hp => ?_)
      obtain ⟨rfl, hm9⟩ := hp
      replace hm9 := hm9.symm
      subst hm9
      refine aw_st (st' := [.int (wth (S.c 6) (farF (flH S j u (S.A j 2) (S.c 4)) (flV S j u (S.A j 2) (S.c 4))))]) rfl ?_
      refine aw_iret C hQe ?_ (by omega) (by omega) dX7_wouldScore_79
      have ej6 : ix (nI j) = j := ix_nI hj (by have := hI.A6; omega)
      have hc : rdC S (nI j) = 0 := by simp [rdC, b7, bd, ej6]
      rw [hc]
      rw [ej6]
      exact ⟨⟨_, rfl, fun _ => by unfold wsF; rw [huq, eu6]⟩, ⟨((X.wth 0).wh (flH S j u (S.A j 2) (S.c 4))).wv (flV S j u (S.A j 2) (S.c 4)), hM3, hR, rfl⟩, hF3⟩
  · refine aw_eqi (y := 0) (if_neg b7) ?_
    refine aw_if_ne C (tgt := 19) dX7_wouldScore_10 (by decide) (fun c9 => absurd (by decide) c9) (fun _ => ?_)
    refine aw_aload_n C dX7_wouldScore_13 rfl ?_
    refine aw_iconst C (v := 1) (by decide) dX7_wouldScore_14 ?_
    refine aw_callV (n := 1) C hE (ci := 9) (q := (RX7, TX7, 22)) (k_X7_refuse (x := 1) B hM1) gX7_wouldScore_X7_refuse rfl ⟨rfl, rfl⟩ (by decide +kernel) ⟨by decide, by decide⟩ rfl rfl hM1.mo rfl (Nat.le_of_ble_eq_true rfl) dX7_wouldScore_15 ⟨by decide, by decide⟩ (fun v μ' hp => ?_)
    obtain ⟨rfl, hM2, hG2⟩ := hp
    have hF2 : FrM K S.nA S.nQ μ _ := hF1.tr hG2
    refine aw_st (st' := [.int 0]) rfl ?_
    refine aw_iret C hQe ?_ (by omega) (by omega) dX7_wouldScore_18
    have hc : rdC S x = 1 := by simp [rdC, b7]
    rw [hc]
    exact ⟨⟨_, rfl, fun q => absurd q (by decide)⟩, ⟨(X.wth 0).wth 1, hM2, hR, rfl⟩, hF2⟩
set_option maxRecDepth 100000 in
set_option maxHeartbeats 4000000 in
theorem k_X7_mark (B : Base s0) {μ : mu} {K : Nat → Nat → Nat} {e0 : Nat} {S : SS} {X : XS} (hM : RM g K e0 S X μ) (hI : Iv S) {b : Nat} (hR : MR S X b) {x : Int32} : Ct l yX7_mark wsX7_mark (rmOf 4 0 0 180) s0 D (tyL g) [.ref (K 0 0), .int x] μ 0 0 (fun v9 μ' => (∃ r : Int32, v9 = some (.int r) ∧ (rdC S x = 0 → r = mkF S (ix x))) ∧ PMx g K e0 S S (rdC S x) b μ μ') := by
  refine Ct.of (cc := cX7_mark) (own := RX7) (maxL := 6) (ret := (some .int)) (by decide) rfl rfl (Nat.le_of_ble_eq_true rfl) ?_
  intro p e s m args below meth c Q C hE hnm hQe
  have in_RX7 : ∀ w ∈ u_ws RX7 TX7 22, w ∈ wsX7_mark := by decide +kernel
  have f39 : FL wsX7_mark RX7 39 9 "ArrowFieldModel" RX7 TX7 22 0 := ⟨in_RX7, rfl, by decide, by decide +kernel, Or.inl rfl⟩
  have f19 : FL wsX7_mark RX7 19 9 "ArrowFieldModel" RX7 TX7 22 3 := ⟨in_RX7, rfl, by decide, by decide +kernel, Or.inl rfl⟩
  have f152 : FL wsX7_mark RX7 152 9 "ArrowFieldModel" RX7 TX7 22 20 := ⟨in_RX7, rfl, by decide, by decide +kernel, Or.inl rfl⟩
  refine aw_aload_n C dX7_mark_0 rfl ?_
  refine aw_iconst C (v := 0) (by decide) dX7_mark_1 ?_
  refine aw_putE C f39 ftX7 (ty := .int) (by decide +kernel) rfl rfl hM.mo (Nat.le_of_ble_eq_true rfl) (fs' := [.int 0, .ref (K 1 0), .ref (K 2 0), .int (S.c 4), .int (S.c 5), .int (S.c 6), .int (S.c 9), .int (S.c 10), .int (S.c 8), .int (S.c 13), .int (S.c 7), .int (S.c 11), .int (S.c 14), .ref (K 3 0), .ref (K 4 0), .ref (K 5 0), .double X.ne, .int (nI X.T), .int X.il, .double X.h, .double X.v, .long X.sm]) rfl dX7_mark_2 ?_
  refine aw_re (P := fun μ1 => RM g K e0 S (X.wth 0) μ1 ∧ FrM K S.nA S.nQ μ μ1) ⟨hM.setX (X.wth 0) rfl rfl rfl, (FrM.rf : FrM K S.nA S.nQ μ μ).mpw (m0 (by decide))⟩ (fun μ1 hq => ?_)
  obtain ⟨hM1, hF1⟩ := hq
  refine aw_aload_n C dX7_mark_5 rfl ?_
  refine aw_iload_n C dX7_mark_6 rfl ?_
  refine aw_callV (n := 1) C hE (ci := 9) (q := (RX7, TX7, 22)) (k_X7_isArcher (x := x) B hM1 hI) gX7_mark_X7_isArcher rfl ⟨rfl, rfl⟩ (by decide +kernel) ⟨by decide, by decide⟩ rfl rfl hM1.mo rfl (Nat.le_of_ble_eq_true rfl) dX7_mark_7 ⟨by decide, by decide⟩ (fun v μ' hp => ?_)
  obtain ⟨rfl, hm9⟩ := hp
  replace hm9 := hm9.symm
  subst hm9
  refine aw_st (st' := [.int (if inb x S.nA = true then 1 else 0)]) rfl ?_
  by_cases b7 : inb x S.nA = true
  · refine aw_eqi (y := 1) (if_pos b7) ?_
    refine aw_if_ne C (tgt := 19) dX7_mark_10 (by decide) (fun _ => ?_) (fun c9 => absurd c9 (by decide))
    obtain ⟨j, hj, rfl⟩ := inb_of b7 (by have := hI.A6; omega)
    refine aw_aload_n C dX7_mark_19 rfl ?_
    refine aw_iload_n C dX7_mark_20 rfl ?_
    refine aw_callV (n := 1) C hE (ci := 9) (q := (RX7, TX7, 22)) (k_X7_isReady B hM1 hI hj) gX7_mark_X7_isReady rfl ⟨rfl, rfl⟩ (by decide +kernel) ⟨by decide, by decide⟩ rfl rfl hM1.mo rfl (Nat.le_of_ble_eq_true rfl) dX7_mark_21 ⟨by decide, by decide⟩ (fun v μ' hp => ?_)
    obtain ⟨rfl, hm9⟩ := hp
    replace hm9 := hm9.symm
    subst hm9
    refine aw_st (st' := [.int (if S.A j 5 = -1 then 0 else 1)]) rfl ?_
    by_cases bd : S.A j 5 = -1
    · refine aw_eqi (y := 0) (if_pos bd) ?_
      refine aw_if_ne C (tgt := 33) dX7_mark_24 (by decide) (fun c9 => absurd (by decide) c9) (fun _ => ?_)
      refine aw_aload_n C dX7_mark_27 rfl ?_
      refine aw_iconst C (v := 2) (by decide) dX7_mark_28 ?_
      refine aw_callV (n := 1) C hE (ci := 9) (q := (RX7, TX7, 22)) (k_X7_refuse (x := 2) B hM1) gX7_mark_X7_refuse rfl ⟨rfl, rfl⟩ (by decide +kernel) ⟨by decide, by decide⟩ rfl rfl hM1.mo rfl (Nat.le_of_ble_eq_true rfl) dX7_mark_29 ⟨by decide, by decide⟩ (fun v μ' hp => ?_)
      obtain ⟨rfl, hM2, hG2⟩ := hp
      have hF2 : FrM K S.nA S.nQ μ _ := hF1.tr hG2
      refine aw_st (st' := [.int 0]) rfl ?_
      refine aw_iret C hQe ?_ (by omega) (by omega) dX7_mark_32
      have ej6 : ix (nI j) = j := ix_nI hj (by have := hI.A6; omega)
      have hc : rdC S (nI j) = 2 := by simp [rdC, b7, bd, ej6]
      rw [hc]
      exact ⟨⟨_, rfl, fun q => absurd q (by decide)⟩, ⟨(X.wth 0).wth 2, hM2, hR, rfl⟩, hF2⟩
    · refine aw_eqi (y := 1) (if_neg bd) ?_
      refine aw_if_ne C (tgt := 33) dX7_mark_24 (by decide) (fun _ => ?_) (fun c9 => absurd c9 (by decide))
      obtain ⟨u, hu, huq⟩ := (hI.2.2.2.1 j hj).2.2.resolve_left bd
      have eu6 : ix (nI u) = u := ix_nI hu (by have := hI.Q6; omega)
      refine aw_iconst C (v := 0) (by decide) dX7_mark_33 ?_
      refine aw_istore_n C dX7_mark_34 (by decide) ?_
      refine aw_dconst0 C dX7_mark_35 ?_
      refine aw_dstore_n C dX7_mark_36 (by decide) ?_
      refine aw_iconst C (v := 0) (by decide) dX7_mark_37 ?_
      refine aw_istore C dX7_mark_38 (by decide) ?_
      refine aw_lv (lv' := [(0, .ref (K 0 0)), (1, .int (nI j)), (2, .int 0), (3, .double FP.dconst0), (5, .int 0)]) ⟨rfl, rfl, rfl, rfl, rfl, trivial⟩ ?_
      have loop40 : ∀ (n : Nat) (i : Nat) (xi : Int32) (be : Int32) (nb : UInt64) (xh : UInt64) (xv : UInt64) (μk : mu), 128 - i = n → xi = nI i → i ≤ 128 → be = nI (amN (fun k => ab (flV S j u (nI k) (S.c 4))) i) ∧ (0 < i → Nn nb ∧ dk nb = (ab (flV S j u (nI (amN (fun k => ab (flV S j u (nI k) (S.c 4))) i)) (S.c 4)) : Int)) → RM g K e0 S (((X.wth 0).wh xh).wv xv) μk → FrM K S.nA S.nQ μ μk → Aw p l e (rmOf 4 0 0 180) s m args below meth c Q s0.heap.size D 6 μk 0 0 40 [(0, .ref (K 0 0)), (1, .int (nI j)), (2, .int be), (3, .double nb), (5, .int xi)] [] := by
        intro n
        induction n using Nat.strongRecOn with
        | _ n ih =>
          intro i xi be nb xh xv μk hn hx hk hs hMl hFl
          refine aw_iload C dX7_mark_40 rfl ?_
          refine aw_sipush C (v := 128) (by decide) dX7_mark_42 ?_
          refine aw_icmp_ge C (tgt := 96) dX7_mark_45 (by decide) (fun c_45 => ?_) (fun c_45 => ?_)
          · refine aw_iload_n C dX7_mark_96 rfl ?_
            refine aw_iret C hQe ?_ (by omega) (by omega) dX7_mark_97
            have e8 : i = 128 := by have := ge_of (n := 128) hx (by decide) (by omega) c_45; omega
            subst e8
            have ej6 : ix (nI j) = j := ix_nI hj (by have := hI.A6; omega)
            have hc : rdC S (nI j) = 0 := by simp [rdC, b7, bd, c_45, ej6]
            rw [hc]
            rw [ej6]
            exact ⟨⟨_, rfl, fun _ => by unfold mkF; rw [huq, eu6]; exact hs.1⟩, ⟨((X.wth 0).wh xh).wv xv, hMl, hR, rfl⟩, hFl⟩
          · have hi : i < 128 := lt_of (n := 128) hx (by decide) (by omega) c_45
            subst hx
            have nv : Eb 1410 (flV S j u (nI i) (S.c 4)) := (fl_ok hI hj hu _ hI.2.1.2).2
            refine aw_aload_n C dX7_mark_48 rfl ?_
            refine aw_iload_n C dX7_mark_49 rfl ?_
            refine aw_iload C dX7_mark_50 rfl ?_
            refine aw_aload_n C dX7_mark_52 rfl ?_
            refine aw_get C f19 hMl.mo rfl dX7_mark_53 ?_
            refine aw_callV (n := 3) C hE (ci := 9) (q := (RX7, TX7, 22)) (k_X7_fly_ (u := u) (x := (nI i)) (di := S.c 4) B hMl hI hj hu huq hI.2.1.2) gX7_mark_X7_fly_ rfl ⟨rfl, rfl⟩ (by decide +kernel) ⟨by decide, by decide⟩ rfl rfl hMl.mo rfl (Nat.le_of_ble_eq_true rfl) dX7_mark_56 ⟨by decide, by decide⟩ (fun v μ' hp => ?_)
            obtain ⟨rfl, hM2, hG2⟩ := hp
            have hF2 : FrM K S.nA S.nQ μ _ := hFl.tr hG2
            refine aw_st (st' := []) rfl ?_
            refine aw_re (P := fun μ1 => RM g K e0 S (((X.wth 0).wh (flH S j u (nI i) (S.c 4))).wv (flV S j u (nI i) (S.c 4))) μ1 ∧ FrM K S.nA S.nQ μ μ1) ⟨hM2, hF2⟩ (fun μ3 hq => ?_)
            obtain ⟨hM3, hF3⟩ := hq
            refine aw_iload C dX7_mark_59 rfl ?_
            refine aw_if_le C (tgt := 79) dX7_mark_61 (by decide) (fun c_61 => ?_) (fun c_61 => ?_)
            · refine aw_iload C dX7_mark_79 rfl ?_
              refine aw_istore_n C dX7_mark_81 (by decide) ?_
              refine aw_aload_n C dX7_mark_82 rfl ?_
              refine aw_get C f152 hM3.mo rfl dX7_mark_83 ?_
              refine aw_callS (n := 1) C hE (k_J9_abs_294c1 (x := flV S j u (nI i) (S.c 4)) B (nv.n (by decide))) gX7_mark_J9_abs_294c1 rfl ⟨rfl, rfl⟩ (by decide +kernel) ⟨by decide, by decide⟩ rfl rfl (Nat.le_of_ble_eq_true rfl) dX7_mark_86 ⟨by decide, by decide⟩ (fun v μ' hp => ?_)
              obtain ⟨rfl, hm9⟩ := hp
              replace hm9 := hm9.symm
              subst hm9
              refine aw_st (st' := [.double ((flV S j u (nI i) (S.c 4)) &&& 0x7fffffffffffffff)]) rfl ?_
              refine aw_dstore_n C dX7_mark_89 (by decide) ?_
              refine aw_iinc C dX7_mark_90 rfl (by decide) ?_
              refine aw_goto C (tgt := 40) dX7_mark_93 (by decide) ?_
              have hs9 : nI i = nI (amN (fun k => ab (flV S j u (nI k) (S.c 4))) (i + 1)) ∧ (0 < i + 1 → Nn ((flV S j u (nI i) (S.c 4)) &&& 0x7fffffffffffffff) ∧ dk ((flV S j u (nI i) (S.c 4)) &&& 0x7fffffffffffffff) = (ab (flV S j u (nI (amN (fun k => ab (flV S j u (nI k) (S.c 4))) (i + 1))) (S.c 4)) : Int)) := by
                have h0 : i = 0 := by
                  have h1 : ¬ 0 < i := fun q => absurd c_61 (nI_nle q (by omega))
                  omega
                subst h0
                exact ⟨by rw [amN_1], fun _ => ⟨nv.mk.nn (by decide), by rw [mk_key, amN_1]⟩⟩
              refine aw_lv (lv' := [(0, .ref (K 0 0)), (1, .int (nI j)), (2, .int (nI i)), (3, .double ((flV S j u (nI i) (S.c 4)) &&& 0x7fffffffffffffff)), (5, .int (nI i + Int32.ofInt 1))]) ⟨rfl, rfl, rfl, rfl, rfl, trivial⟩ ?_
              exact ih _ (by omega) (i + 1) (nI i + Int32.ofInt 1) (nI i) ((flV S j u (nI i) (S.c 4)) &&& 0x7fffffffffffffff) (flH S j u (nI i) (S.c 4)) (flV S j u (nI i) (S.c 4)) _ rfl (nI_inc i) (by omega) hs9 hM3 hF3
            · refine aw_aload_n C dX7_mark_64 rfl ?_
              refine aw_get C f152 hM3.mo rfl dX7_mark_65 ?_
              refine aw_callS (n := 1) C hE (k_J9_abs_294c1 (x := flV S j u (nI i) (S.c 4)) B (nv.n (by decide))) gX7_mark_J9_abs_294c1 rfl ⟨rfl, rfl⟩ (by decide +kernel) ⟨by decide, by decide⟩ rfl rfl (Nat.le_of_ble_eq_true rfl) dX7_mark_68 ⟨by decide, by decide⟩ (fun v μ' hp => ?_)
              obtain ⟨rfl, hm9⟩ := hp
              replace hm9 := hm9.symm
              subst hm9
              refine aw_st (st' := [.double ((flV S j u (nI i) (S.c 4)) &&& 0x7fffffffffffffff)]) rfl ?_
              refine aw_dload_n C dX7_mark_71 rfl ?_
              refine aw_dcmp C dX7_mark_72 ?_
              refine aw_if_lt C (tgt := 79) dX7_mark_73 (by decide) (fun c_73 => ?_) (fun c_73 => ?_)
              · refine aw_iload C dX7_mark_79 rfl ?_
                refine aw_istore_n C dX7_mark_81 (by decide) ?_
                refine aw_aload_n C dX7_mark_82 rfl ?_
                refine aw_get C f152 hM3.mo rfl dX7_mark_83 ?_
                refine aw_callS (n := 1) C hE (k_J9_abs_294c1 (x := flV S j u (nI i) (S.c 4)) B (nv.n (by decide))) gX7_mark_J9_abs_294c1 rfl ⟨rfl, rfl⟩ (by decide +kernel) ⟨by decide, by decide⟩ rfl rfl (Nat.le_of_ble_eq_true rfl) dX7_mark_86 ⟨by decide, by decide⟩ (fun v μ' hp => ?_)
                obtain ⟨rfl, hm9⟩ := hp
                replace hm9 := hm9.symm
                subst hm9
                refine aw_st (st' := [.double ((flV S j u (nI i) (S.c 4)) &&& 0x7fffffffffffffff)]) rfl ?_
                refine aw_dstore_n C dX7_mark_89 (by decide) ?_
                refine aw_iinc C dX7_mark_90 rfl (by decide) ?_
                refine aw_goto C (tgt := 40) dX7_mark_93 (by decide) ?_
                have hs9 : nI i = nI (amN (fun k => ab (flV S j u (nI k) (S.c 4))) (i + 1)) ∧ (0 < i + 1 → Nn ((flV S j u (nI i) (S.c 4)) &&& 0x7fffffffffffffff) ∧ dk ((flV S j u (nI i) (S.c 4)) &&& 0x7fffffffffffffff) = (ab (flV S j u (nI (amN (fun k => ab (flV S j u (nI k) (S.c 4))) (i + 1))) (S.c 4)) : Int)) := by
                  have hp0 : 0 < i := by
                    rcases Nat.eq_zero_or_pos i with q | q
                    · exact absurd (show nI i ≤ 0 by rw [q]; decide) c_61
                    · exact q
                  obtain ⟨h3, h4⟩ := hs.2 hp0
                  rw [kv_lt0 (nv.mk.nn (by decide)) h3, mk_key, h4] at c_73
                  have h5 : amN (fun k => ab (flV S j u (nI k) (S.c 4))) (i + 1) = i := amN_y (by omega)
                  rw [h5]
                  exact ⟨rfl, fun _ => ⟨nv.mk.nn (by decide), mk_key _⟩⟩
                refine aw_lv (lv' := [(0, .ref (K 0 0)), (1, .int (nI j)), (2, .int (nI i)), (3, .double ((flV S j u (nI i) (S.c 4)) &&& 0x7fffffffffffffff)), (5, .int (nI i + Int32.ofInt 1))]) ⟨rfl, rfl, rfl, rfl, rfl, trivial⟩ ?_
                exact ih _ (by omega) (i + 1) (nI i + Int32.ofInt 1) (nI i) ((flV S j u (nI i) (S.c 4)) &&& 0x7fffffffffffffff) (flH S j u (nI i) (S.c 4)) (flV S j u (nI i) (S.c 4)) _ rfl (nI_inc i) (by omega) hs9 hM3 hF3
              · refine aw_goto C (tgt := 90) dX7_mark_76 (by decide) ?_
                refine aw_iinc C dX7_mark_90 rfl (by decide) ?_
                refine aw_goto C (tgt := 40) dX7_mark_93 (by decide) ?_
                have hs9 : be = nI (amN (fun k => ab (flV S j u (nI k) (S.c 4))) (i + 1)) ∧ (0 < i + 1 → Nn nb ∧ dk nb = (ab (flV S j u (nI (amN (fun k => ab (flV S j u (nI k) (S.c 4))) (i + 1))) (S.c 4)) : Int)) := by
                  have hp0 : 0 < i := by
                    rcases Nat.eq_zero_or_pos i with q | q
                    · exact absurd (show nI i ≤ 0 by rw [q]; decide) c_61
                    · exact q
                  obtain ⟨h3, h4⟩ := hs.2 hp0
                  rw [kv_lt0 (nv.mk.nn (by decide)) h3, mk_key, h4] at c_73
                  have h5 : amN (fun k => ab (flV S j u (nI k) (S.c 4))) (i + 1) = amN (fun k => ab (flV S j u (nI k) (S.c 4))) i := amN_n (by omega)
                  rw [h5]
                  exact ⟨hs.1, fun _ => ⟨h3, h4⟩⟩
                refine aw_lv (lv' := [(0, .ref (K 0 0)), (1, .int (nI j)), (2, .int be), (3, .double nb), (5, .int (nI i + Int32.ofInt 1))]) ⟨rfl, rfl, rfl, rfl, rfl, trivial⟩ ?_
                exact ih _ (by omega) (i + 1) (nI i + Int32.ofInt 1) be nb (flH S j u (nI i) (S.c 4)) (flV S j u (nI i) (S.c 4)) _ rfl (nI_inc i) (by omega) hs9 hM3 hF3
      exact loop40 _ 0 0 0 FP.dconst0 X.h X.v _ rfl rfl (by decide) (⟨rfl, fun q => absurd q (Nat.lt_irrefl 0)⟩) hM1 hF1
  · refine aw_eqi (y := 0) (if_neg b7) ?_
    refine aw_if_ne C (tgt := 19) dX7_mark_10 (by decide) (fun c9 => absurd (by decide) c9) (fun _ => ?_)
    refine aw_aload_n C dX7_mark_13 rfl ?_
    refine aw_iconst C (v := 1) (by decide) dX7_mark_14 ?_
    refine aw_callV (n := 1) C hE (ci := 9) (q := (RX7, TX7, 22)) (k_X7_refuse (x := 1) B hM1) gX7_mark_X7_refuse rfl ⟨rfl, rfl⟩ (by decide +kernel) ⟨by decide, by decide⟩ rfl rfl hM1.mo rfl (Nat.le_of_ble_eq_true rfl) dX7_mark_15 ⟨by decide, by decide⟩ (fun v μ' hp => ?_)
    obtain ⟨rfl, hM2, hG2⟩ := hp
    have hF2 : FrM K S.nA S.nQ μ _ := hF1.tr hG2
    refine aw_st (st' := [.int 0]) rfl ?_
    refine aw_iret C hQe ?_ (by omega) (by omega) dX7_mark_18
    have hc : rdC S x = 1 := by simp [rdC, b7]
    rw [hc]
    exact ⟨⟨_, rfl, fun q => absurd q (by decide)⟩, ⟨(X.wth 0).wth 1, hM2, hR, rfl⟩, hF2⟩
set_option maxRecDepth 100000 in
set_option maxHeartbeats 4000000 in
theorem k_X7_bestNow (B : Base s0) {μ : mu} {K : Nat → Nat → Nat} {e0 : Nat} {S : SS} {X : XS} (hM : RM g K e0 S X μ) (hI : Iv S) {j : Nat} (hj : j < S.nA) : Ct l yX7_bestNow wsX7_bestNow (rmOf 4 0 0 180) s0 D (tyL g) [.ref (K 0 0), .int (nI j)] μ 0 0 (fun v9 μ' => v9 = some (.int (beF S j)) ∧ ∃ xh xv : UInt64, RM g K e0 S ((X.wh xh).wv xv) μ' ∧ FrM K S.nA S.nQ μ μ') := by
  refine Ct.of (cc := cX7_bestNow) (own := RX7) (maxL := 7) (ret := (some .int)) (by decide) rfl rfl (Nat.le_of_ble_eq_true rfl) ?_
  intro p e s m args below meth c Q C hE hnm hQe
  have in_RX7 : ∀ w ∈ u_ws RX7 TX7 22, w ∈ wsX7_bestNow := by decide +kernel
  have in_RX5 : ∀ w ∈ u_ws RX5 TX5 12, w ∈ wsX7_bestNow := by decide +kernel
  have f16 : FL wsX7_bestNow RX7 16 9 "ArrowFieldModel" RX7 TX7 22 2 := ⟨in_RX7, rfl, by decide, by decide +kernel, Or.inl rfl⟩
  have f10 : FL wsX7_bestNow RX7 10 9 "ArrowFieldModel" RX7 TX7 22 1 := ⟨in_RX7, rfl, by decide, by decide +kernel, Or.inl rfl⟩
  have f97 : FN s0 wsX7_bestNow RX7 97 7 "ArrowFieldModel$Archer" RX5 TX5 12 2 "ArrowFieldModel" := ⟨in_RX5, rfl, by decide, B.fnRX7_97, rfl⟩
  have f19 : FL wsX7_bestNow RX7 19 9 "ArrowFieldModel" RX7 TX7 22 3 := ⟨in_RX7, rfl, by decide, by decide +kernel, Or.inl rfl⟩
  have f148 : FL wsX7_bestNow RX7 148 9 "ArrowFieldModel" RX7 TX7 22 19 := ⟨in_RX7, rfl, by decide, by decide +kernel, Or.inl rfl⟩
  have hQ6 := hI.Q6
  refine aw_iconst C (v := (-1)) (by decide) dX7_bestNow_0 ?_
  refine aw_istore_n C dX7_bestNow_1 (by decide) ?_
  refine aw_dconst0 C dX7_bestNow_2 ?_
  refine aw_dstore_n C dX7_bestNow_3 (by decide) ?_
  refine aw_iconst C (v := 0) (by decide) dX7_bestNow_4 ?_
  refine aw_istore C dX7_bestNow_5 (by decide) ?_
  refine aw_lv (lv' := [(0, .ref (K 0 0)), (1, .int (nI j)), (2, .int (-1)), (3, .double FP.dconst0), (5, .int 0)]) ⟨rfl, rfl, rfl, rfl, rfl, trivial⟩ ?_
  have loop7 : ∀ (n : Nat) (i : Nat) (xi : Int32) (be : Int32) (nb : UInt64) (xh : UInt64) (xv : UInt64) (μk : mu), S.nQ - i = n → xi = nI i → i ≤ S.nQ → be = beN S j i ∧ (be = -1 ∨ ∃ k, k < S.nQ ∧ be = nI k ∧ Nn nb ∧ dk nb = (ab (flH S j k (S.A j 2) (S.c 4)) : Int)) → RM g K e0 S ((X.wh xh).wv xv) μk → FrM K S.nA S.nQ μ μk → Aw p l e (rmOf 4 0 0 180) s m args below meth c Q s0.heap.size D 7 μk 0 0 7 [(0, .ref (K 0 0)), (1, .int (nI j)), (2, .int be), (3, .double nb), (5, .int xi)] [] := by
    intro n
    induction n using Nat.strongRecOn with
    | _ n ih =>
      intro i xi be nb xh xv μk hn hx hk hs hMl hFl
      refine aw_iload C dX7_bestNow_7 rfl ?_
      refine aw_aload_n C dX7_bestNow_9 rfl ?_
      refine aw_get C f16 hMl.mo rfl dX7_bestNow_10 ?_
      refine aw_callV (n := 0) C hE (ci := 1) (q := (RJx4a65c, TJx4a65c, 3)) (k_Jx4a65c_size_8abf5 B hMl.qL) gX7_bestNow_Jx4a65c_size_8abf5 rfl ⟨rfl, rfl⟩ (by decide +kernel) ⟨by decide, by decide⟩ rfl rfl hMl.qL rfl (Nat.le_of_ble_eq_true rfl) dX7_bestNow_13 ⟨by decide, by decide⟩ (fun v μ' hp => ?_)
      obtain ⟨rfl, hm9⟩ := hp
      replace hm9 := hm9.symm
      subst hm9
      refine aw_st (st' := [.int (nI S.nQ), .int xi]) rfl ?_
      refine aw_icmp_ge C (tgt := 124) dX7_bestNow_16 (by decide) (fun c_16 => ?_) (fun c_16 => ?_)
      · refine aw_iload_n C dX7_bestNow_124 rfl ?_
        refine aw_iret C hQe ?_ (by omega) (by omega) dX7_bestNow_125
        have e8 : i = S.nQ := by have := ge_of (n := S.nQ) hx (by omega) (by omega) c_16; omega
        exact ⟨by rw [hs.1, e8]; rfl, xh, xv, hMl, hFl⟩
      · have hi : i < S.nQ := lt_of (n := S.nQ) hx (by omega) (by omega) c_16
        subst hx
        have nv : Eb 1410 (flH S j i (S.A j 2) (S.c 4)) := (fl_ok hI hj hi _ hI.2.1.2).1
        refine aw_aload_n C dX7_bestNow_19 rfl ?_
        refine aw_iload C dX7_bestNow_20 rfl ?_
        refine aw_callV (n := 1) C hE (ci := 9) (q := (RX7, TX7, 22)) (k_X7_holder (x := (nI i)) B hMl hI) gX7_bestNow_X7_holder rfl ⟨rfl, rfl⟩ (by decide +kernel) ⟨by decide, by decide⟩ rfl rfl hMl.mo rfl (Nat.le_of_ble_eq_true rfl) dX7_bestNow_22 ⟨by decide, by decide⟩ (fun v μ' hp => ?_)
        obtain ⟨rfl, hm9⟩ := hp
        replace hm9 := hm9.symm
        subst hm9
        refine aw_st (st' := [.int (hoF S (nI i))]) rfl ?_
        refine aw_istore C dX7_bestNow_25 (by decide) ?_
        refine aw_iload C dX7_bestNow_27 rfl ?_
        refine aw_iconst C (v := (-1)) (by decide) dX7_bestNow_29 ?_
        refine aw_icmp_eq C (tgt := 42) dX7_bestNow_30 (by decide) (fun c_30 => ?_) (fun c_30 => ?_)
        · refine aw_aload_n C dX7_bestNow_42 rfl ?_
          refine aw_aload_n C dX7_bestNow_43 rfl ?_
          refine aw_get C f10 hMl.mo rfl dX7_bestNow_44 ?_
          refine aw_iload_n C dX7_bestNow_47 rfl ?_
          refine aw_callV (n := 1) C hE (ci := 1) (q := (RJx4a65c, TJx4a65c, 3)) (k_getA B hMl hI hj) gX7_bestNow_Jx4a65c_get_915e3 rfl ⟨rfl, rfl⟩ (by decide +kernel) ⟨by decide, by decide⟩ rfl rfl hMl.aL rfl (Nat.le_of_ble_eq_true rfl) dX7_bestNow_48 ⟨by decide, by decide⟩ (fun v μ' hp => ?_)
          obtain ⟨rfl, hm9⟩ := hp
          replace hm9 := hm9.symm
          subst hm9
          refine aw_st (st' := [.ref (K 8 j), .ref (K 0 0)]) rfl ?_
          refine aw_cast C (ci := 7) (by decide +kernel) (va_Nw.warmC hE.1 B.caXa) rfl (hMl.xa hj) dX7_bestNow_51 ?_
          refine aw_aload_n C dX7_bestNow_54 rfl ?_
          refine aw_get C f16 hMl.mo rfl dX7_bestNow_55 ?_
          refine aw_iload C dX7_bestNow_58 rfl ?_
          refine aw_callV (n := 1) C hE (ci := 1) (q := (RJx4a65c, TJx4a65c, 3)) (k_getQ B hMl hI hi) gX7_bestNow_Jx4a65c_get_915e3 rfl ⟨rfl, rfl⟩ (by decide +kernel) ⟨by decide, by decide⟩ rfl rfl hMl.qL rfl (Nat.le_of_ble_eq_true rfl) dX7_bestNow_60 ⟨by decide, by decide⟩ (fun v μ' hp => ?_)
          obtain ⟨rfl, hm9⟩ := hp
          replace hm9 := hm9.symm
          subst hm9
          refine aw_st (st' := [.ref (K 9 i), .ref (K 8 j), .ref (K 0 0)]) rfl ?_
          refine aw_cast C (ci := 8) (by decide +kernel) (va_Nw.warmC hE.1 B.caXq) rfl (hMl.xq hi) dX7_bestNow_63 ?_
          refine aw_aload_n C dX7_bestNow_66 rfl ?_
          refine aw_get C f10 hMl.mo rfl dX7_bestNow_67 ?_
          refine aw_iload_n C dX7_bestNow_70 rfl ?_
          refine aw_callV (n := 1) C hE (ci := 1) (q := (RJx4a65c, TJx4a65c, 3)) (k_getA B hMl hI hj) gX7_bestNow_Jx4a65c_get_915e3 rfl ⟨rfl, rfl⟩ (by decide +kernel) ⟨by decide, by decide⟩ rfl rfl hMl.aL rfl (Nat.le_of_ble_eq_true rfl) dX7_bestNow_71 ⟨by decide, by decide⟩ (fun v μ' hp => ?_)
          obtain ⟨rfl, hm9⟩ := hp
          replace hm9 := hm9.symm
          subst hm9
          refine aw_st (st' := [.ref (K 8 j), .ref (K 9 i), .ref (K 8 j), .ref (K 0 0)]) rfl ?_
          refine aw_cast C (ci := 7) (by decide +kernel) (va_Nw.warmC hE.1 B.caXa) rfl (hMl.xa hj) dX7_bestNow_74 ?_
          refine aw_getN C hE f97 (hMl.xa hj) rfl dX7_bestNow_77 ?_
          refine aw_aload_n C dX7_bestNow_80 rfl ?_
          refine aw_get C f19 hMl.mo rfl dX7_bestNow_81 ?_
          refine aw_callV (n := 4) C hE (ci := 9) (q := (RX7, TX7, 22)) (k_X7_fly (j := j) (u := i) (sight := S.A j 2) (di := S.c 4) B hMl hI hj hi hI.2.1.2) gX7_bestNow_X7_fly rfl ⟨rfl, rfl⟩ (by decide +kernel) ⟨by decide, by decide⟩ rfl rfl hMl.mo rfl (Nat.le_of_ble_eq_true rfl) dX7_bestNow_84 ⟨by decide, by decide⟩ (fun v μ' hp => ?_)
          obtain ⟨rfl, hM1, hG1⟩ := hp
          have hF1 : FrM K S.nA S.nQ μ _ := hFl.tr hG1
          refine aw_st (st' := []) rfl ?_
          refine aw_re (P := fun μ1 => RM g K e0 S ((X.wh (flH S j i (S.A j 2) (S.c 4))).wv (flV S j i (S.A j 2) (S.c 4))) μ1 ∧ FrM K S.nA S.nQ μ μ1) ⟨hM1, hF1⟩ (fun μ2 hq => ?_)
          obtain ⟨hM2, hF2⟩ := hq
          refine aw_iload_n C dX7_bestNow_87 rfl ?_
          refine aw_iconst C (v := (-1)) (by decide) dX7_bestNow_88 ?_
          refine aw_icmp_eq C (tgt := 107) dX7_bestNow_89 (by decide) (fun c_89 => ?_) (fun c_89 => ?_)
          · refine aw_iload C dX7_bestNow_107 rfl ?_
            refine aw_istore_n C dX7_bestNow_109 (by decide) ?_
            refine aw_aload_n C dX7_bestNow_110 rfl ?_
            refine aw_get C f148 hM2.mo rfl dX7_bestNow_111 ?_
            refine aw_callS (n := 1) C hE (k_J9_abs_294c1 (x := flH S j i (S.A j 2) (S.c 4)) B (nv.n (by decide))) gX7_bestNow_J9_abs_294c1 rfl ⟨rfl, rfl⟩ (by decide +kernel) ⟨by decide, by decide⟩ rfl rfl (Nat.le_of_ble_eq_true rfl) dX7_bestNow_114 ⟨by decide, by decide⟩ (fun v μ' hp => ?_)
            obtain ⟨rfl, hm9⟩ := hp
            replace hm9 := hm9.symm
            subst hm9
            refine aw_st (st' := [.double ((flH S j i (S.A j 2) (S.c 4)) &&& 0x7fffffffffffffff)]) rfl ?_
            refine aw_dstore_n C dX7_bestNow_117 (by decide) ?_
            refine aw_iinc C dX7_bestNow_118 rfl (by decide) ?_
            refine aw_goto C (tgt := 7) dX7_bestNow_121 (by decide) ?_
            have hs9 : nI i = beN S j (i + 1) := by
              unfold beN
              rw [if_pos ⟨(Or.inl c_30), Or.inl (hs.1.symm.trans c_89)⟩]
            refine aw_lv (lv' := [(0, .ref (K 0 0)), (1, .int (nI j)), (2, .int (nI i)), (3, .double ((flH S j i (S.A j 2) (S.c 4)) &&& 0x7fffffffffffffff)), (5, .int (nI i + Int32.ofInt 1))]) ⟨rfl, rfl, rfl, rfl, rfl, trivial⟩ ?_
            exact ih _ (by omega) (i + 1) (nI i + Int32.ofInt 1) (nI i) ((flH S j i (S.A j 2) (S.c 4)) &&& 0x7fffffffffffffff) (flH S j i (S.A j 2) (S.c 4)) (flV S j i (S.A j 2) (S.c 4)) _ rfl (nI_inc i) (by omega) (⟨hs9, Or.inr ⟨i, hi, rfl, nv.mk.nn (by decide), mk_key _⟩⟩) hM2 hF2
          · refine aw_aload_n C dX7_bestNow_92 rfl ?_
            refine aw_get C f148 hM2.mo rfl dX7_bestNow_93 ?_
            refine aw_callS (n := 1) C hE (k_J9_abs_294c1 (x := flH S j i (S.A j 2) (S.c 4)) B (nv.n (by decide))) gX7_bestNow_J9_abs_294c1 rfl ⟨rfl, rfl⟩ (by decide +kernel) ⟨by decide, by decide⟩ rfl rfl (Nat.le_of_ble_eq_true rfl) dX7_bestNow_96 ⟨by decide, by decide⟩ (fun v μ' hp => ?_)
            obtain ⟨rfl, hm9⟩ := hp
            replace hm9 := hm9.symm
            subst hm9
            refine aw_st (st' := [.double ((flH S j i (S.A j 2) (S.c 4)) &&& 0x7fffffffffffffff)]) rfl ?_
            refine aw_dload_n C dX7_bestNow_99 rfl ?_
            refine aw_dcmp C dX7_bestNow_100 ?_
            refine aw_if_lt C (tgt := 107) dX7_bestNow_101 (by decide) (fun c_101 => ?_) (fun c_101 => ?_)
            · refine aw_iload C dX7_bestNow_107 rfl ?_
              refine aw_istore_n C dX7_bestNow_109 (by decide) ?_
              refine aw_aload_n C dX7_bestNow_110 rfl ?_
              refine aw_get C f148 hM2.mo rfl dX7_bestNow_111 ?_
              refine aw_callS (n := 1) C hE (k_J9_abs_294c1 (x := flH S j i (S.A j 2) (S.c 4)) B (nv.n (by decide))) gX7_bestNow_J9_abs_294c1 rfl ⟨rfl, rfl⟩ (by decide +kernel) ⟨by decide, by decide⟩ rfl rfl (Nat.le_of_ble_eq_true rfl) dX7_bestNow_114 ⟨by decide, by decide⟩ (fun v μ' hp => ?_)
              obtain ⟨rfl, hm9⟩ := hp
              replace hm9 := hm9.symm
              subst hm9
              refine aw_st (st' := [.double ((flH S j i (S.A j 2) (S.c 4)) &&& 0x7fffffffffffffff)]) rfl ?_
              refine aw_dstore_n C dX7_bestNow_117 (by decide) ?_
              refine aw_iinc C dX7_bestNow_118 rfl (by decide) ?_
              refine aw_goto C (tgt := 7) dX7_bestNow_121 (by decide) ?_
              have hs9 : nI i = beN S j (i + 1) := by
                obtain ⟨k, h0, h1, h2, h3⟩ := hs.2.resolve_left c_89
                rw [kv_lt0 (nv.mk.nn (by decide)) h2, mk_key, h3] at c_101
                unfold beN
                rw [if_pos ⟨(Or.inl c_30), Or.inr (by rw [← hs.1, h1, show ix (nI k) = k from ix_nI h0 (by have := hI.Q6; omega)]; omega)⟩]
              refine aw_lv (lv' := [(0, .ref (K 0 0)), (1, .int (nI j)), (2, .int (nI i)), (3, .double ((flH S j i (S.A j 2) (S.c 4)) &&& 0x7fffffffffffffff)), (5, .int (nI i + Int32.ofInt 1))]) ⟨rfl, rfl, rfl, rfl, rfl, trivial⟩ ?_
              exact ih _ (by omega) (i + 1) (nI i + Int32.ofInt 1) (nI i) ((flH S j i (S.A j 2) (S.c 4)) &&& 0x7fffffffffffffff) (flH S j i (S.A j 2) (S.c 4)) (flV S j i (S.A j 2) (S.c 4)) _ rfl (nI_inc i) (by omega) (⟨hs9, Or.inr ⟨i, hi, rfl, nv.mk.nn (by decide), mk_key _⟩⟩) hM2 hF2
            · refine aw_goto C (tgt := 118) dX7_bestNow_104 (by decide) ?_
              refine aw_iinc C dX7_bestNow_118 rfl (by decide) ?_
              refine aw_goto C (tgt := 7) dX7_bestNow_121 (by decide) ?_
              have hs9 : be = beN S j (i + 1) := by
                obtain ⟨k, h0, h1, h2, h3⟩ := hs.2.resolve_left c_89
                rw [kv_lt0 (nv.mk.nn (by decide)) h2, mk_key, h3] at c_101
                unfold beN
                rw [if_neg (fun q => q.2.elim (fun z => c_89 (hs.1.trans z)) (by rw [← hs.1, h1, show ix (nI k) = k from ix_nI h0 (by have := hI.Q6; omega)]; omega))]
                exact hs.1
              refine aw_lv (lv' := [(0, .ref (K 0 0)), (1, .int (nI j)), (2, .int be), (3, .double nb), (5, .int (nI i + Int32.ofInt 1))]) ⟨rfl, rfl, rfl, rfl, rfl, trivial⟩ ?_
              exact ih _ (by omega) (i + 1) (nI i + Int32.ofInt 1) be nb (flH S j i (S.A j 2) (S.c 4)) (flV S j i (S.A j 2) (S.c 4)) _ rfl (nI_inc i) (by omega) (⟨hs9, hs.2⟩) hM2 hF2
        · refine aw_iload C dX7_bestNow_33 rfl ?_
          refine aw_iload_n C dX7_bestNow_35 rfl ?_
          refine aw_icmp_eq C (tgt := 42) dX7_bestNow_36 (by decide) (fun c_36 => ?_) (fun c_36 => ?_)
          · refine aw_aload_n C dX7_bestNow_42 rfl ?_
            refine aw_aload_n C dX7_bestNow_43 rfl ?_
            refine aw_get C f10 hMl.mo rfl dX7_bestNow_44 ?_
            refine aw_iload_n C dX7_bestNow_47 rfl ?_
            refine aw_callV (n := 1) C hE (ci := 1) (q := (RJx4a65c, TJx4a65c, 3)) (k_getA B hMl hI hj) gX7_bestNow_Jx4a65c_get_915e3 rfl ⟨rfl, rfl⟩ (by decide +kernel) ⟨by decide, by decide⟩ rfl rfl hMl.aL rfl (Nat.le_of_ble_eq_true rfl) dX7_bestNow_48 ⟨by decide, by decide⟩ (fun v μ' hp => ?_)
            obtain ⟨rfl, hm9⟩ := hp
            replace hm9 := hm9.symm
            subst hm9
            refine aw_st (st' := [.ref (K 8 j), .ref (K 0 0)]) rfl ?_
            refine aw_cast C (ci := 7) (by decide +kernel) (va_Nw.warmC hE.1 B.caXa) rfl (hMl.xa hj) dX7_bestNow_51 ?_
            refine aw_aload_n C dX7_bestNow_54 rfl ?_
            refine aw_get C f16 hMl.mo rfl dX7_bestNow_55 ?_
            refine aw_iload C dX7_bestNow_58 rfl ?_
            refine aw_callV (n := 1) C hE (ci := 1) (q := (RJx4a65c, TJx4a65c, 3)) (k_getQ B hMl hI hi) gX7_bestNow_Jx4a65c_get_915e3 rfl ⟨rfl, rfl⟩ (by decide +kernel) ⟨by decide, by decide⟩ rfl rfl hMl.qL rfl (Nat.le_of_ble_eq_true rfl) dX7_bestNow_60 ⟨by decide, by decide⟩ (fun v μ' hp => ?_)
            obtain ⟨rfl, hm9⟩ := hp
            replace hm9 := hm9.symm
            subst hm9
            refine aw_st (st' := [.ref (K 9 i), .ref (K 8 j), .ref (K 0 0)]) rfl ?_
            refine aw_cast C (ci := 8) (by decide +kernel) (va_Nw.warmC hE.1 B.caXq) rfl (hMl.xq hi) dX7_bestNow_63 ?_
            refine aw_aload_n C dX7_bestNow_66 rfl ?_
            refine aw_get C f10 hMl.mo rfl dX7_bestNow_67 ?_
            refine aw_iload_n C dX7_bestNow_70 rfl ?_
            refine aw_callV (n := 1) C hE (ci := 1) (q := (RJx4a65c, TJx4a65c, 3)) (k_getA B hMl hI hj) gX7_bestNow_Jx4a65c_get_915e3 rfl ⟨rfl, rfl⟩ (by decide +kernel) ⟨by decide, by decide⟩ rfl rfl hMl.aL rfl (Nat.le_of_ble_eq_true rfl) dX7_bestNow_71 ⟨by decide, by decide⟩ (fun v μ' hp => ?_)
            obtain ⟨rfl, hm9⟩ := hp
            replace hm9 := hm9.symm
            subst hm9
            refine aw_st (st' := [.ref (K 8 j), .ref (K 9 i), .ref (K 8 j), .ref (K 0 0)]) rfl ?_
            refine aw_cast C (ci := 7) (by decide +kernel) (va_Nw.warmC hE.1 B.caXa) rfl (hMl.xa hj) dX7_bestNow_74 ?_
            refine aw_getN C hE f97 (hMl.xa hj) rfl dX7_bestNow_77 ?_
            refine aw_aload_n C dX7_bestNow_80 rfl ?_
            refine aw_get C f19 hMl.mo rfl dX7_bestNow_81 ?_
            refine aw_callV (n := 4) C hE (ci := 9) (q := (RX7, TX7, 22)) (k_X7_fly (j := j) (u := i) (sight := S.A j 2) (di := S.c 4) B hMl hI hj hi hI.2.1.2) gX7_bestNow_X7_fly rfl ⟨rfl, rfl⟩ (by decide +kernel) ⟨by decide, by decide⟩ rfl rfl hMl.mo rfl (Nat.le_of_ble_eq_true rfl) dX7_bestNow_84 ⟨by decide, by decide⟩ (fun v μ' hp => ?_)
            obtain ⟨rfl, hM1, hG1⟩ := hp
            have hF1 : FrM K S.nA S.nQ μ _ := hFl.tr hG1
            refine aw_st (st' := []) rfl ?_
            refine aw_re (P := fun μ1 => RM g K e0 S ((X.wh (flH S j i (S.A j 2) (S.c 4))).wv (flV S j i (S.A j 2) (S.c 4))) μ1 ∧ FrM K S.nA S.nQ μ μ1) ⟨hM1, hF1⟩ (fun μ2 hq => ?_)
            obtain ⟨hM2, hF2⟩ := hq
            refine aw_iload_n C dX7_bestNow_87 rfl ?_
            refine aw_iconst C (v := (-1)) (by decide) dX7_bestNow_88 ?_
            refine aw_icmp_eq C (tgt := 107) dX7_bestNow_89 (by decide) (fun c_89 => ?_) (fun c_89 => ?_)
            · refine aw_iload C dX7_bestNow_107 rfl ?_
              refine aw_istore_n C dX7_bestNow_109 (by decide) ?_
              refine aw_aload_n C dX7_bestNow_110 rfl ?_
              refine aw_get C f148 hM2.mo rfl dX7_bestNow_111 ?_
              refine aw_callS (n := 1) C hE (k_J9_abs_294c1 (x := flH S j i (S.A j 2) (S.c 4)) B (nv.n (by decide))) gX7_bestNow_J9_abs_294c1 rfl ⟨rfl, rfl⟩ (by decide +kernel) ⟨by decide, by decide⟩ rfl rfl (Nat.le_of_ble_eq_true rfl) dX7_bestNow_114 ⟨by decide, by decide⟩ (fun v μ' hp => ?_)
              obtain ⟨rfl, hm9⟩ := hp
              replace hm9 := hm9.symm
              subst hm9
              refine aw_st (st' := [.double ((flH S j i (S.A j 2) (S.c 4)) &&& 0x7fffffffffffffff)]) rfl ?_
              refine aw_dstore_n C dX7_bestNow_117 (by decide) ?_
              refine aw_iinc C dX7_bestNow_118 rfl (by decide) ?_
              refine aw_goto C (tgt := 7) dX7_bestNow_121 (by decide) ?_
              have hs9 : nI i = beN S j (i + 1) := by
                unfold beN
                rw [if_pos ⟨(Or.inr c_36), Or.inl (hs.1.symm.trans c_89)⟩]
              refine aw_lv (lv' := [(0, .ref (K 0 0)), (1, .int (nI j)), (2, .int (nI i)), (3, .double ((flH S j i (S.A j 2) (S.c 4)) &&& 0x7fffffffffffffff)), (5, .int (nI i + Int32.ofInt 1))]) ⟨rfl, rfl, rfl, rfl, rfl, trivial⟩ ?_
              exact ih _ (by omega) (i + 1) (nI i + Int32.ofInt 1) (nI i) ((flH S j i (S.A j 2) (S.c 4)) &&& 0x7fffffffffffffff) (flH S j i (S.A j 2) (S.c 4)) (flV S j i (S.A j 2) (S.c 4)) _ rfl (nI_inc i) (by omega) (⟨hs9, Or.inr ⟨i, hi, rfl, nv.mk.nn (by decide), mk_key _⟩⟩) hM2 hF2
            · refine aw_aload_n C dX7_bestNow_92 rfl ?_
              refine aw_get C f148 hM2.mo rfl dX7_bestNow_93 ?_
              refine aw_callS (n := 1) C hE (k_J9_abs_294c1 (x := flH S j i (S.A j 2) (S.c 4)) B (nv.n (by decide))) gX7_bestNow_J9_abs_294c1 rfl ⟨rfl, rfl⟩ (by decide +kernel) ⟨by decide, by decide⟩ rfl rfl (Nat.le_of_ble_eq_true rfl) dX7_bestNow_96 ⟨by decide, by decide⟩ (fun v μ' hp => ?_)
              obtain ⟨rfl, hm9⟩ := hp
              replace hm9 := hm9.symm
              subst hm9
              refine aw_st (st' := [.double ((flH S j i (S.A j 2) (S.c 4)) &&& 0x7fffffffffffffff)]) rfl ?_
              refine aw_dload_n C dX7_bestNow_99 rfl ?_
              refine aw_dcmp C dX7_bestNow_100 ?_
              refine aw_if_lt C (tgt := 107) dX7_bestNow_101 (by decide) (fun c_101 => ?_) (fun c_101 => ?_)
              · refine aw_iload C dX7_bestNow_107 rfl ?_
                refine aw_istore_n C dX7_bestNow_109 (by decide) ?_
                refine aw_aload_n C dX7_bestNow_110 rfl ?_
                refine aw_get C f148 hM2.mo rfl dX7_bestNow_111 ?_
                refine aw_callS (n := 1) C hE (k_J9_abs_294c1 (x := flH S j i (S.A j 2) (S.c 4)) B (nv.n (by decide))) gX7_bestNow_J9_abs_294c1 rfl ⟨rfl, rfl⟩ (by decide +kernel) ⟨by decide, by decide⟩ rfl rfl (Nat.le_of_ble_eq_true rfl) dX7_bestNow_114 ⟨by decide, by decide⟩ (fun v μ' hp => ?_)
                obtain ⟨rfl, hm9⟩ := hp
                replace hm9 := hm9.symm
                subst hm9
                refine aw_st (st' := [.double ((flH S j i (S.A j 2) (S.c 4)) &&& 0x7fffffffffffffff)]) rfl ?_
                refine aw_dstore_n C dX7_bestNow_117 (by decide) ?_
                refine aw_iinc C dX7_bestNow_118 rfl (by decide) ?_
                refine aw_goto C (tgt := 7) dX7_bestNow_121 (by decide) ?_
                have hs9 : nI i = beN S j (i + 1) := by
                  obtain ⟨k, h0, h1, h2, h3⟩ := hs.2.resolve_left c_89
                  rw [kv_lt0 (nv.mk.nn (by decide)) h2, mk_key, h3] at c_101
                  unfold beN
                  rw [if_pos ⟨(Or.inr c_36), Or.inr (by rw [← hs.1, h1, show ix (nI k) = k from ix_nI h0 (by have := hI.Q6; omega)]; omega)⟩]
                refine aw_lv (lv' := [(0, .ref (K 0 0)), (1, .int (nI j)), (2, .int (nI i)), (3, .double ((flH S j i (S.A j 2) (S.c 4)) &&& 0x7fffffffffffffff)), (5, .int (nI i + Int32.ofInt 1))]) ⟨rfl, rfl, rfl, rfl, rfl, trivial⟩ ?_
                exact ih _ (by omega) (i + 1) (nI i + Int32.ofInt 1) (nI i) ((flH S j i (S.A j 2) (S.c 4)) &&& 0x7fffffffffffffff) (flH S j i (S.A j 2) (S.c 4)) (flV S j i (S.A j 2) (S.c 4)) _ rfl (nI_inc i) (by omega) (⟨hs9, Or.inr ⟨i, hi, rfl, nv.mk.nn (by decide), mk_key _⟩⟩) hM2 hF2
              · refine aw_goto C (tgt := 118) dX7_bestNow_104 (by decide) ?_
                refine aw_iinc C dX7_bestNow_118 rfl (by decide) ?_
                refine aw_goto C (tgt := 7) dX7_bestNow_121 (by decide) ?_
                have hs9 : be = beN S j (i + 1) := by
                  obtain ⟨k, h0, h1, h2, h3⟩ := hs.2.resolve_left c_89
                  rw [kv_lt0 (nv.mk.nn (by decide)) h2, mk_key, h3] at c_101
                  unfold beN
                  rw [if_neg (fun q => q.2.elim (fun z => c_89 (hs.1.trans z)) (by rw [← hs.1, h1, show ix (nI k) = k from ix_nI h0 (by have := hI.Q6; omega)]; omega))]
                  exact hs.1
                refine aw_lv (lv' := [(0, .ref (K 0 0)), (1, .int (nI j)), (2, .int be), (3, .double nb), (5, .int (nI i + Int32.ofInt 1))]) ⟨rfl, rfl, rfl, rfl, rfl, trivial⟩ ?_
                exact ih _ (by omega) (i + 1) (nI i + Int32.ofInt 1) be nb (flH S j i (S.A j 2) (S.c 4)) (flV S j i (S.A j 2) (S.c 4)) _ rfl (nI_inc i) (by omega) (⟨hs9, hs.2⟩) hM2 hF2
          · refine aw_goto C (tgt := 118) dX7_bestNow_39 (by decide) ?_
            refine aw_iinc C dX7_bestNow_118 rfl (by decide) ?_
            refine aw_goto C (tgt := 7) dX7_bestNow_121 (by decide) ?_
            have hs9 : be = beN S j (i + 1) := by
              unfold beN
              rw [if_neg (fun q => q.1.elim c_30 c_36)]
              exact hs.1
            refine aw_lv (lv' := [(0, .ref (K 0 0)), (1, .int (nI j)), (2, .int be), (3, .double nb), (5, .int (nI i + Int32.ofInt 1))]) ⟨rfl, rfl, rfl, rfl, rfl, trivial⟩ ?_
            exact ih _ (by omega) (i + 1) (nI i + Int32.ofInt 1) be nb xh xv _ rfl (nI_inc i) (by omega) (⟨hs9, hs.2⟩) hMl hFl
  exact loop7 _ 0 0 (-1) FP.dconst0 X.h X.v _ rfl rfl (Nat.zero_le _) (⟨rfl, Or.inl rfl⟩) hM (FrM.rf : FrM K S.nA S.nQ μ μ)
set_option maxRecDepth 100000 in
set_option maxHeartbeats 4000000 in
theorem k_X7_best (B : Base s0) {μ : mu} {K : Nat → Nat → Nat} {e0 : Nat} {S : SS} {X : XS} (hM : RM g K e0 S X μ) (hI : Iv S) {b : Nat} (hR : MR S X b) {x : Int32} : Ct l yX7_best wsX7_best (rmOf 5 0 0 210) s0 D (tyL g) [.ref (K 0 0), .int x] μ 0 0 (fun v9 μ' => (∃ r : Int32, v9 = some (.int r) ∧ (stC S x = 0 → r = beF S (ix x))) ∧ PMx g K e0 S S (stC S x) b μ μ') := by
  refine Ct.of (cc := cX7_best) (own := RX7) (maxL := 2) (ret := (some .int)) (by decide) rfl rfl (Nat.le_of_ble_eq_true rfl) ?_
  intro p e s m args below meth c Q C hE hnm hQe
  have in_RX7 : ∀ w ∈ u_ws RX7 TX7 22, w ∈ wsX7_best := by decide +kernel
  have f39 : FL wsX7_best RX7 39 9 "ArrowFieldModel" RX7 TX7 22 0 := ⟨in_RX7, rfl, by decide, by decide +kernel, Or.inl rfl⟩
  refine aw_aload_n C dX7_best_0 rfl ?_
  refine aw_iconst C (v := 0) (by decide) dX7_best_1 ?_
  refine aw_putE C f39 ftX7 (ty := .int) (by decide +kernel) rfl rfl hM.mo (Nat.le_of_ble_eq_true rfl) (fs' := [.int 0, .ref (K 1 0), .ref (K 2 0), .int (S.c 4), .int (S.c 5), .int (S.c 6), .int (S.c 9), .int (S.c 10), .int (S.c 8), .int (S.c 13), .int (S.c 7), .int (S.c 11), .int (S.c 14), .ref (K 3 0), .ref (K 4 0), .ref (K 5 0), .double X.ne, .int (nI X.T), .int X.il, .double X.h, .double X.v, .long X.sm]) rfl dX7_best_2 ?_
  refine aw_re (P := fun μ1 => RM g K e0 S (X.wth 0) μ1 ∧ FrM K S.nA S.nQ μ μ1) ⟨hM.setX (X.wth 0) rfl rfl rfl, (FrM.rf : FrM K S.nA S.nQ μ μ).mpw (m0 (by decide))⟩ (fun μ1 hq => ?_)
  obtain ⟨hM1, hF1⟩ := hq
  refine aw_aload_n C dX7_best_5 rfl ?_
  refine aw_iload_n C dX7_best_6 rfl ?_
  refine aw_callV (n := 1) C hE (ci := 9) (q := (RX7, TX7, 22)) (k_X7_isArcher (x := x) B hM1 hI) gX7_best_X7_isArcher rfl ⟨rfl, rfl⟩ (by decide +kernel) ⟨by decide, by decide⟩ rfl rfl hM1.mo rfl (Nat.le_of_ble_eq_true rfl) dX7_best_7 ⟨by decide, by decide⟩ (fun v μ' hp => ?_)
  obtain ⟨rfl, hm9⟩ := hp
  replace hm9 := hm9.symm
  subst hm9
  refine aw_st (st' := [.int (if inb x S.nA = true then 1 else 0)]) rfl ?_
  by_cases b7 : inb x S.nA = true
  · refine aw_eqi (y := 1) (if_pos b7) ?_
    refine aw_if_eq C (tgt := 21) dX7_best_10 (by decide) (fun c9 => absurd c9 (by decide)) (fun _ => ?_)
    obtain ⟨j, hj, rfl⟩ := inb_of b7 (by have := hI.A6; omega)
    refine aw_aload_n C dX7_best_13 rfl ?_
    refine aw_iload_n C dX7_best_14 rfl ?_
    refine aw_callV (n := 1) C hE (ci := 9) (q := (RX7, TX7, 22)) (k_X7_bestNow B hM1 hI hj) gX7_best_X7_bestNow rfl ⟨rfl, rfl⟩ (by decide +kernel) ⟨by decide, by decide⟩ rfl rfl hM1.mo rfl (Nat.le_of_ble_eq_true rfl) dX7_best_15 ⟨by decide, by decide⟩ (fun v μ' hp => ?_)
    obtain ⟨rfl, bh9, bv9, hM2, hG2⟩ := hp
    have hF2 : FrM K S.nA S.nQ μ _ := hF1.tr hG2
    refine aw_st (st' := [.int (beF S j)]) rfl ?_
    refine aw_goto C (tgt := 26) dX7_best_18 (by decide) ?_
    refine aw_iret C hQe ?_ (by omega) (by omega) dX7_best_26
    have ej6 : ix (nI j) = j := ix_nI hj (by have := hI.A6; omega)
    have hc : stC S (nI j) = 0 := by simp [stC, b7]
    rw [hc]
    rw [ej6]
    exact ⟨⟨_, rfl, fun _ => rfl⟩, ⟨((X.wth 0).wh bh9).wv bv9, hM2, hR, rfl⟩, hF2⟩
  · refine aw_eqi (y := 0) (if_neg b7) ?_
    refine aw_if_eq C (tgt := 21) dX7_best_10 (by decide) (fun _ => ?_) (fun c9 => absurd (by decide) c9)
    refine aw_aload_n C dX7_best_21 rfl ?_
    refine aw_iconst C (v := 1) (by decide) dX7_best_22 ?_
    refine aw_callV (n := 1) C hE (ci := 9) (q := (RX7, TX7, 22)) (k_X7_refuse (x := 1) B hM1) gX7_best_X7_refuse rfl ⟨rfl, rfl⟩ (by decide +kernel) ⟨by decide, by decide⟩ rfl rfl hM1.mo rfl (Nat.le_of_ble_eq_true rfl) dX7_best_23 ⟨by decide, by decide⟩ (fun v μ' hp => ?_)
    obtain ⟨rfl, hM2, hG2⟩ := hp
    have hF2 : FrM K S.nA S.nQ μ _ := hF1.tr hG2
    refine aw_st (st' := [.int 0]) rfl ?_
    refine aw_iret C hQe ?_ (by omega) (by omega) dX7_best_26
    have hc : stC S x = 1 := by simp [stC, b7]
    rw [hc]
    exact ⟨⟨_, rfl, fun q => absurd q (by decide)⟩, ⟨(X.wth 0).wth 1, hM2, hR, rfl⟩, hF2⟩
set_option maxRecDepth 100000 in
set_option maxHeartbeats 4000000 in
theorem k_X7_add (B : Base s0) {μ : mu} {K : Nat → Nat → Nat} {e0 : Nat} {S : SS} {X : XS} (hM : RM g K e0 S X μ) {d : Int64} : Ct l yX7_add wsX7_add (rmOf 0 0 0 0) s0 D (tyL g) [.ref (K 0 0), .long d] μ 0 0 (fun v9 μ' => v9 = none ∧ RM g K e0 S (X.wsm (X.sm * 31 + d)) μ' ∧ FrM K S.nA S.nQ μ μ') := by
  refine Ct.of (cc := cX7_add) (own := RX7) (maxL := 3) (ret := none) (by decide) rfl rfl (Nat.le_of_ble_eq_true rfl) ?_
  intro p e s m args below meth c Q C hE hnm hQe
  have in_RX7 : ∀ w ∈ u_ws RX7 TX7 22, w ∈ wsX7_add := by decide +kernel
  have f285 : FL wsX7_add RX7 285 9 "ArrowFieldModel" RX7 TX7 22 21 := ⟨in_RX7, rfl, by decide, by decide +kernel, Or.inl rfl⟩
  have k289 : Cond.constantLong RX7 289 (31) ∈ wsX7_add := by decide +kernel
  refine aw_aload_n C dX7_add_0 rfl ?_
  refine aw_aload_n C dX7_add_1 rfl ?_
  refine aw_get C f285 hM.mo rfl dX7_add_2 ?_
  refine aw_ldc2 C k289 dX7_add_5 ?_
  refine aw_lmul C dX7_add_8 ?_
  refine aw_lload_n C dX7_add_9 rfl ?_
  refine aw_ladd C dX7_add_10 ?_
  refine aw_putE C f285 ftX7 (ty := .long) (by decide +kernel) rfl rfl hM.mo (Nat.le_of_ble_eq_true rfl) (fs' := [.int X.th, .ref (K 1 0), .ref (K 2 0), .int (S.c 4), .int (S.c 5), .int (S.c 6), .int (S.c 9), .int (S.c 10), .int (S.c 8), .int (S.c 13), .int (S.c 7), .int (S.c 11), .int (S.c 14), .ref (K 3 0), .ref (K 4 0), .ref (K 5 0), .double X.ne, .int (nI X.T), .int X.il, .double X.h, .double X.v, .long ((X.sm * 31) + d)]) rfl dX7_add_11 ?_
  refine aw_re (P := fun μ1 => RM g K e0 S (X.wsm ((X.sm * 31) + d)) μ1 ∧ FrM K S.nA S.nQ μ μ1) ⟨hM.setX (X.wsm ((X.sm * 31) + d)) rfl rfl rfl, (FrM.rf : FrM K S.nA S.nQ μ μ).mpw (m0 (by decide))⟩ (fun μ1 hq => ?_)
  obtain ⟨hM1, hF1⟩ := hq
  refine aw_vret C hQe ?_ (by omega) (by omega) dX7_add_14
  exact ⟨rfl, hM1, hF1⟩
end KM6
