/-! ===== ArrowFieldModel: new archers, new quivers, a new one ===== -/
theorem Ct.cast9 {l : Launch} {y : MethodName} {ws : List Cond} {rm : Room} {s0 : State} {D : va_G} {tys : List (ClassId × FieldType)} {av : List Value} {μ : mu} {mc ms : Nat} {p1 p2 : Option Value → mu → Prop} (h : Ct l y ws rm s0 D tys av μ mc ms p1) (e : p1 = p2) : Ct l y ws rm s0 D tys av μ mc ms p2 := e ▸ h
theorem nI_pred1 (n : Nat) : nI (n + 1) - 1 = nI n := nI_pred n
section KM9
variable {l : Launch} {s0 : State} {D : va_G} {g : Nat → ClassId}
set_option maxRecDepth 100000 in
set_option maxHeartbeats 4000000 in
theorem k_X7_archer (B : Base s0) {μ : mu} {K : Nat → Nat → Nat} {e0 : Nat} {S : SS} {X : XS} (hM : RM g K e0 S X μ) (hI : Iv S) {b : Nat} (hR : MR S X b) (bl : BL s0 g e0) {x y : Int32} : Ct l yX7_archer wsX7_archer (rmOf 6 2 22 220) s0 D (tyL g) [.ref (K 0 0), .int x, .int y] μ 2 22 (fun v9 μ' => (∃ r : Int32, v9 = some (.int r) ∧ (arC S x y = 0 → r = nI S.nA)) ∧ PMk g K e0 S (arS S x y) (arC S x y) b μ μ') := by
  refine Ct.of (cc := cX7_archer) (own := RX7) (maxL := 4) (ret := (some .int)) (by decide) rfl rfl (Nat.le_of_ble_eq_true rfl) ?_
  intro p e s m args below meth c Q C hE hnm hQe
  have in_RX7 : ∀ w ∈ u_ws RX7 TX7 22, w ∈ wsX7_archer := by decide +kernel
  have in_RX5 : ∀ w ∈ u_ws RX5 TX5 12, w ∈ wsX7_archer := by decide +kernel
  have f39 : FL wsX7_archer RX7 39 9 "ArrowFieldModel" RX7 TX7 22 0 := ⟨in_RX7, rfl, by decide, by decide +kernel, Or.inl rfl⟩
  have f10 : FL wsX7_archer RX7 10 9 "ArrowFieldModel" RX7 TX7 22 1 := ⟨in_RX7, rfl, by decide, by decide +kernel, Or.inl rfl⟩
  have f64 : FN s0 wsX7_archer RX7 64 7 "ArrowFieldModel$Archer" RX5 TX5 12 0 "ArrowFieldModel" := ⟨in_RX5, rfl, by decide, B.fnRX7_64, rfl⟩
  have f67 : FN s0 wsX7_archer RX7 67 7 "ArrowFieldModel$Archer" RX5 TX5 12 1 "ArrowFieldModel" := ⟨in_RX5, rfl, by decide, B.fnRX7_67, rfl⟩
  refine aw_aload_n C dX7_archer_0 rfl ?_
  refine aw_iconst C (v := 0) (by decide) dX7_archer_1 ?_
  refine aw_putE C f39 ftX7 (ty := .int) (by decide +kernel) rfl rfl hM.mo (Nat.le_of_ble_eq_true rfl) (fs' := [.int 0, .ref (K 1 0), .ref (K 2 0), .int (S.c 4), .int (S.c 5), .int (S.c 6), .int (S.c 9), .int (S.c 10), .int (S.c 8), .int (S.c 13), .int (S.c 7), .int (S.c 11), .int (S.c 14), .ref (K 3 0), .ref (K 4 0), .ref (K 5 0), .double X.ne, .int (nI X.T), .int X.il, .double X.h, .double X.v, .long X.sm]) rfl dX7_archer_2 ?_
  refine aw_re (P := fun μ1 => RM g K e0 S (X.wth 0) μ1 ∧ FrM K S.nA S.nQ μ μ1) ⟨hM.setX (X.wth 0) rfl rfl rfl, (FrM.rf : FrM K S.nA S.nQ μ μ).mpw (m0 (by decide))⟩ (fun μ1 hq => ?_)
  obtain ⟨hM1, hF1⟩ := hq
  refine aw_iload_n C dX7_archer_5 rfl ?_
  refine aw_bipush C (v := 20) (by decide) dX7_archer_6 ?_
  refine aw_bipush C (v := 60) (by decide) dX7_archer_8 ?_
  refine aw_callS (n := 3) C hE (k_X7_is (x := x) (lo := 20) (hi := 60) B) gX7_archer_X7_is rfl ⟨rfl, rfl⟩ (by decide +kernel) ⟨by decide, by decide⟩ rfl rfl (Nat.le_of_ble_eq_true rfl) dX7_archer_10 ⟨by decide, by decide⟩ (fun v μ' hp => ?_)
  obtain ⟨rfl, hm9⟩ := hp
  replace hm9 := hm9.symm
  subst hm9
  refine aw_st (st' := [.int (if btw x 20 60 = true then 1 else 0)]) rfl ?_
  by_cases b10 : btw x 20 60 = true
  · refine aw_eqi (y := 1) (if_pos b10) ?_
    refine aw_if_eq C (tgt := 26) dX7_archer_13 (by decide) (fun c9 => absurd c9 (by decide)) (fun _ => ?_)
    refine aw_iload_n C dX7_archer_16 rfl ?_
    refine aw_iconst C (v := 0) (by decide) dX7_archer_17 ?_
    refine aw_bipush C (v := 9) (by decide) dX7_archer_18 ?_
    refine aw_callS (n := 3) C hE (k_X7_is (x := y) (lo := 0) (hi := 9) B) gX7_archer_X7_is rfl ⟨rfl, rfl⟩ (by decide +kernel) ⟨by decide, by decide⟩ rfl rfl (Nat.le_of_ble_eq_true rfl) dX7_archer_20 ⟨by decide, by decide⟩ (fun v μ' hp => ?_)
    obtain ⟨rfl, hm9⟩ := hp
    replace hm9 := hm9.symm
    subst hm9
    refine aw_st (st' := [.int (if btw y 0 9 = true then 1 else 0)]) rfl ?_
    by_cases b20 : btw y 0 9 = true
    · refine aw_eqi (y := 1) (if_pos b20) ?_
      refine aw_if_ne C (tgt := 32) dX7_archer_23 (by decide) (fun _ => ?_) (fun c9 => absurd c9 (by decide))
      refine aw_aload_n C dX7_archer_32 rfl ?_
      refine aw_get C f10 hM1.mo rfl dX7_archer_33 ?_
      refine aw_callV (n := 0) C hE (ci := 1) (q := (RJx4a65c, TJx4a65c, 3)) (k_Jx4a65c_size_8abf5 B hM1.aL) gX7_archer_Jx4a65c_size_8abf5 rfl ⟨rfl, rfl⟩ (by decide +kernel) ⟨by decide, by decide⟩ rfl rfl hM1.aL rfl (Nat.le_of_ble_eq_true rfl) dX7_archer_36 ⟨by decide, by decide⟩ (fun v μ' hp => ?_)
      obtain ⟨rfl, hm9⟩ := hp
      replace hm9 := hm9.symm
      subst hm9
      refine aw_st (st' := [.int (nI S.nA)]) rfl ?_
      refine aw_bipush C (v := 6) (by decide) dX7_archer_39 ?_
      refine aw_icmp_ne C (tgt := 50) dX7_archer_41 (by decide) (fun c_41 => ?_) (fun c_41 => ?_)
      · have h6 : S.nA < 6 := by have h := hI.A6; rcases Nat.lt_or_eq_of_le h with q | q; exact q; exact absurd (show nI S.nA = 6 by rw [q]; rfl) c_41
        have hcr0 : S.cr S.nA = 0 := (hI.2.2.2.2.1 S.nA (Nat.le_refl _)).2
        have e9A : S.A S.nA = dA := (hI.2.2.2.2.1 S.nA (Nat.le_refl _)).1
        refine aw_new C (ci := 7) (fs := [.int 0, .int 0, .int 0, .int 0, .float 0, .int 0, .int 0, .int 0, .int 0, .int 0, .int 0, .int 0]) in_RX5 tyX5 ntX5.1 (by decide +kernel) (by decide +kernel) (by decide +kernel) rfl ntX5.2 (by decide) (by decide) dX7_archer_50 (fun o1 zo1 fo1 => ?_)
        refine aw_dup C rfl dX7_archer_53 ?_
        refine aw_callIN (n := 0) C hE (k_X5_init B mp_s) ggX7_archer_X5_init (by decide +kernel) B.mnRX7_63 (by decide +kernel) rfl rfl ⟨rfl, rfl⟩ (by decide +kernel) ⟨by decide, by decide⟩ rfl rfl (Nat.le_of_ble_eq_true rfl) dX7_archer_54 ⟨by decide, by decide⟩ (fun v μ' hp => ?_)
        obtain ⟨rfl, hm9⟩ := hp
        replace hm9 := hm9.symm
        subst hm9
        refine aw_st (st' := [.ref o1]) rfl ?_
        refine aw_mu mp_mp ?_
        refine aw_astore_n C dX7_archer_57 (by decide) ?_
        refine aw_aload_n C dX7_archer_58 rfl ?_
        refine aw_iload_n C dX7_archer_59 rfl ?_
        refine aw_putNE C hE f64 ftX5 (ty := .int) (by decide +kernel) rfl rfl mp_s (Nat.le_of_ble_eq_true rfl) (fs' := [.int x, .int (dA 1), .int (dA 2), .int (dA 3), .float 0, .int (dA 5), .int (dA 6), .int (dA 7), .int (dA 8), .int (dA 9), .int (dA 10), .int (dA 11)]) rfl dX7_archer_60 ?_
        refine aw_mu mp_mp ?_
        refine aw_aload_n C dX7_archer_63 rfl ?_
        refine aw_iload_n C dX7_archer_64 rfl ?_
        refine aw_putNE C hE f67 ftX5 (ty := .int) (by decide +kernel) rfl rfl mp_s (Nat.le_of_ble_eq_true rfl) (fs' := [.int x, .int y, .int (dA 2), .int (dA 3), .float 0, .int (dA 5), .int (dA 6), .int (dA 7), .int (dA 8), .int (dA 9), .int (dA 10), .int (dA 11)]) rfl dX7_archer_65 ?_
        refine aw_mu mp_mp ?_
        refine aw_aload_n C dX7_archer_68 rfl ?_
        refine aw_get C f10 (mp_k hM1.mo (nn_ne fo1 hM1.mo)) rfl dX7_archer_69 ?_
        refine aw_aload_n C dX7_archer_72 rfl ?_
        refine aw_re (P := fun μz => KpB μ1 μz ∧ μz o1 = some (eXa (upd (upd (S.A S.nA) 0 x) 1 y) 0)) ⟨fun a9 x9 h9 => mp_k h9 (nn_ne fo1 h9), by rw [e9A]; exact mp_s⟩ (fun μh hq => ?_)
        obtain ⟨hk, ho⟩ := hq
        by_cases hz : S.nA = 0
        · have hal : μh (K 1 0) = some (eAl 0 e0 0) := hk _ _ (by have h := hM1.aL; rw [if_pos hz, hz] at h; exact h)
          refine aw_callV (n := 1) C hE (ci := 1) (q := (RJx4a65c, TJx4a65c, 3)) (k_addFA B bl hal ho) gX7_archer_Jx4a65c_add_9ea2d rfl ⟨rfl, rfl⟩ (by decide +kernel) ⟨by decide, by decide⟩ rfl rfl hal rfl (Nat.le_of_ble_eq_true rfl) dX7_archer_73 ⟨by decide, by decide⟩ (fun v μ' hp => ?_)
          obtain ⟨rfl, o2, p1, p2, p3, p4, p5⟩ := hp
          obtain ⟨hRg, hFg, hNg⟩ := growA_F hM1 hcr0 hz fo1 hk ho p1 p3 p4 p5
          have hm0 := p5 _ _ (hk _ _ hM1.mo) (hM1.ki.ne (m0 (by decide)) (m0 (by decide)) (Or.inl (by decide)))
          refine aw_st (st' := [.int 1]) rfl ?_
          refine aw_pop C rfl dX7_archer_76 ?_
          refine aw_aload_n C dX7_archer_77 rfl ?_
          refine aw_get C f10 hm0 rfl dX7_archer_78 ?_
          refine aw_callV (n := 0) C hE (ci := 1) (q := (RJx4a65c, TJx4a65c, 3)) (k_Jx4a65c_size_8abf5 B p4) gX7_archer_Jx4a65c_size_8abf5 rfl ⟨rfl, rfl⟩ (by decide +kernel) ⟨by decide, by decide⟩ rfl rfl p4 rfl (Nat.le_of_ble_eq_true rfl) dX7_archer_81 ⟨by decide, by decide⟩ (fun v μ' hp => ?_)
          obtain ⟨rfl, hm9⟩ := hp
          replace hm9 := hm9.symm
          subst hm9
          refine aw_st (st' := [.int 1]) rfl ?_
          refine aw_iconst C (v := 1) (by decide) dX7_archer_84 ?_
          refine aw_isub C dX7_archer_85 ?_
          refine aw_iret C hQe ?_ (by omega) (by omega) dX7_archer_86
          have hc : arC S x y = 0 := by simp [arC, b10, b20, h6]
          rw [hc]
          exact ⟨⟨_, rfl, fun _ => by rw [hz]; rfl⟩, KA K S.nA o1 o2, rfl, ⟨X.wth 0, hRg, ⟨hR.1, hR.2.1, hR.2.2⟩, rfl⟩, hF1.tr hFg, GrN.back hNg hM1 hF1⟩
        · have hz2 : 0 < S.nA := Nat.pos_of_ne_zero hz
          have hal : μh (K 1 0) = some (eAl (nI S.nA) (K 6 0) (nI S.nA)) := hk _ _ (by have h := hM1.aL; rw [if_neg hz] at h; exact h)
          refine aw_callV (n := 1) C hE (ci := 1) (q := (RJx4a65c, TJx4a65c, 3)) (k_addNA B hal (hk _ _ (hM1.aE hz2)) (by have := hI.A6; omega) ho) gX7_archer_Jx4a65c_add_9ea2d rfl ⟨rfl, rfl⟩ (by decide +kernel) ⟨by decide, by decide⟩ rfl rfl hal rfl (Nat.le_of_ble_eq_true rfl) dX7_archer_73 ⟨by decide, by decide⟩ (fun v μ' hp => ?_)
          obtain ⟨rfl, p2, p3, p4⟩ := hp
          obtain ⟨hRg, hFg, hNg⟩ := growA_N hM1 hcr0 hz2 fo1 hk ho p2 p3 p4
          have hm0 := p4 _ _ (hk _ _ hM1.mo) (hM1.ki.ne (m0 (by decide)) (m0 (by decide)) (Or.inl (by decide))) (hM1.ki.ne (m0 (by decide)) (m6 hz2) (Or.inl (by decide)))
          refine aw_st (st' := [.int 1]) rfl ?_
          refine aw_pop C rfl dX7_archer_76 ?_
          refine aw_aload_n C dX7_archer_77 rfl ?_
          refine aw_get C f10 hm0 rfl dX7_archer_78 ?_
          refine aw_callV (n := 0) C hE (ci := 1) (q := (RJx4a65c, TJx4a65c, 3)) (k_Jx4a65c_size_8abf5 B p3) gX7_archer_Jx4a65c_size_8abf5 rfl ⟨rfl, rfl⟩ (by decide +kernel) ⟨by decide, by decide⟩ rfl rfl p3 rfl (Nat.le_of_ble_eq_true rfl) dX7_archer_81 ⟨by decide, by decide⟩ (fun v μ' hp => ?_)
          obtain ⟨rfl, hm9⟩ := hp
          replace hm9 := hm9.symm
          subst hm9
          refine aw_st (st' := [.int (nI (S.nA + 1))]) rfl ?_
          refine aw_iconst C (v := 1) (by decide) dX7_archer_84 ?_
          refine aw_isub C dX7_archer_85 ?_
          refine aw_iret C hQe ?_ (by omega) (by omega) dX7_archer_86
          have hc : arC S x y = 0 := by simp [arC, b10, b20, h6]
          rw [hc]
          exact ⟨⟨_, rfl, fun _ => nI_pred1 _⟩, KA K S.nA o1 (K 6 0), rfl, ⟨X.wth 0, hRg, ⟨hR.1, hR.2.1, hR.2.2⟩, rfl⟩, hF1.tr hFg, GrN.back hNg hM1 hF1⟩
      · refine aw_aload_n C dX7_archer_44 rfl ?_
        refine aw_iconst C (v := 2) (by decide) dX7_archer_45 ?_
        refine aw_callV (n := 1) C hE (ci := 9) (q := (RX7, TX7, 22)) (k_X7_refuse (x := 2) B hM1) gX7_archer_X7_refuse rfl ⟨rfl, rfl⟩ (by decide +kernel) ⟨by decide, by decide⟩ rfl rfl hM1.mo rfl (Nat.le_of_ble_eq_true rfl) dX7_archer_46 ⟨by decide, by decide⟩ (fun v μ' hp => ?_)
        obtain ⟨rfl, hM2, hG2⟩ := hp
        have hF2 : FrM K S.nA S.nQ μ _ := hF1.tr hG2
        refine aw_st (st' := [.int 0]) rfl ?_
        refine aw_iret C hQe ?_ (by omega) (by omega) dX7_archer_49
        have e6 : S.nA = 6 := nI_inj (b := 6) (by have := hI.A6; omega) (by decide) c_41
        have hc : arC S x y = 2 := by simp [arC, b10, b20, e6]
        rw [hc]
        exact ⟨⟨_, rfl, fun q => absurd q (by decide)⟩, K, rfl, ⟨_, hM2, hR, rfl⟩, hF2, GrN.rf⟩
    · refine aw_eqi (y := 0) (if_neg b20) ?_
      refine aw_if_ne C (tgt := 32) dX7_archer_23 (by decide) (fun c9 => absurd (by decide) c9) (fun _ => ?_)
      refine aw_aload_n C dX7_archer_26 rfl ?_
      refine aw_iconst C (v := 1) (by decide) dX7_archer_27 ?_
      refine aw_callV (n := 1) C hE (ci := 9) (q := (RX7, TX7, 22)) (k_X7_refuse (x := 1) B hM1) gX7_archer_X7_refuse rfl ⟨rfl, rfl⟩ (by decide +kernel) ⟨by decide, by decide⟩ rfl rfl hM1.mo rfl (Nat.le_of_ble_eq_true rfl) dX7_archer_28 ⟨by decide, by decide⟩ (fun v μ' hp => ?_)
      obtain ⟨rfl, hM2, hG2⟩ := hp
      have hF2 : FrM K S.nA S.nQ μ _ := hF1.tr hG2
      refine aw_st (st' := [.int 0]) rfl ?_
      refine aw_iret C hQe ?_ (by omega) (by omega) dX7_archer_31
      have hc : arC S x y = 1 := by simp [arC, b10, b20]
      rw [hc]
      exact ⟨⟨_, rfl, fun q => absurd q (by decide)⟩, K, rfl, ⟨_, hM2, hR, rfl⟩, hF2, GrN.rf⟩
  · refine aw_eqi (y := 0) (if_neg b10) ?_
    refine aw_if_eq C (tgt := 26) dX7_archer_13 (by decide) (fun _ => ?_) (fun c9 => absurd (by decide) c9)
    refine aw_aload_n C dX7_archer_26 rfl ?_
    refine aw_iconst C (v := 1) (by decide) dX7_archer_27 ?_
    refine aw_callV (n := 1) C hE (ci := 9) (q := (RX7, TX7, 22)) (k_X7_refuse (x := 1) B hM1) gX7_archer_X7_refuse rfl ⟨rfl, rfl⟩ (by decide +kernel) ⟨by decide, by decide⟩ rfl rfl hM1.mo rfl (Nat.le_of_ble_eq_true rfl) dX7_archer_28 ⟨by decide, by decide⟩ (fun v μ' hp => ?_)
    obtain ⟨rfl, hM2, hG2⟩ := hp
    have hF2 : FrM K S.nA S.nQ μ _ := hF1.tr hG2
    refine aw_st (st' := [.int 0]) rfl ?_
    refine aw_iret C hQe ?_ (by omega) (by omega) dX7_archer_31
    have hc : arC S x y = 1 := by simp [arC, b10]
    rw [hc]
    exact ⟨⟨_, rfl, fun q => absurd q (by decide)⟩, K, rfl, ⟨_, hM2, hR, rfl⟩, hF2, GrN.rf⟩
set_option maxRecDepth 100000 in
set_option maxHeartbeats 4000000 in
theorem k_X7_quiver (B : Base s0) {μ : mu} {K : Nat → Nat → Nat} {e0 : Nat} {S : SS} {X : XS} (hM : RM g K e0 S X μ) (hI : Iv S) {b : Nat} (hR : MR S X b) (bl : BL s0 g e0) {x y : Int32} : Ct l yX7_quiver wsX7_quiver (rmOf 6 5 51 220) s0 D (tyL g) [.ref (K 0 0), .int x, .int y] μ 5 51 (fun v9 μ' => (∃ r : Int32, v9 = some (.int r) ∧ (quC S x y = 0 → r = nI S.nQ)) ∧ PMk g K e0 S (quS S x y) (quC S x y) b μ μ') := by
  refine Ct.of (cc := cX7_quiver) (own := RX7) (maxL := 4) (ret := (some .int)) (by decide) rfl rfl (Nat.le_of_ble_eq_true rfl) ?_
  intro p e s m args below meth c Q C hE hnm hQe
  have in_RX7 : ∀ w ∈ u_ws RX7 TX7 22, w ∈ wsX7_quiver := by decide +kernel
  have in_RX6 : ∀ w ∈ u_ws RX6 TX6 5, w ∈ wsX7_quiver := by decide +kernel
  have f39 : FL wsX7_quiver RX7 39 9 "ArrowFieldModel" RX7 TX7 22 0 := ⟨in_RX7, rfl, by decide, by decide +kernel, Or.inl rfl⟩
  have f16 : FL wsX7_quiver RX7 16 9 "ArrowFieldModel" RX7 TX7 22 2 := ⟨in_RX7, rfl, by decide, by decide +kernel, Or.inl rfl⟩
  have f77 : FN s0 wsX7_quiver RX7 77 8 "ArrowFieldModel$Quiver" RX6 TX6 5 0 "ArrowFieldModel" := ⟨in_RX6, rfl, by decide, B.fnRX7_77, rfl⟩
  have f80 : FN s0 wsX7_quiver RX7 80 8 "ArrowFieldModel$Quiver" RX6 TX6 5 1 "ArrowFieldModel" := ⟨in_RX6, rfl, by decide, B.fnRX7_80, rfl⟩
  refine aw_aload_n C dX7_quiver_0 rfl ?_
  refine aw_iconst C (v := 0) (by decide) dX7_quiver_1 ?_
  refine aw_putE C f39 ftX7 (ty := .int) (by decide +kernel) rfl rfl hM.mo (Nat.le_of_ble_eq_true rfl) (fs' := [.int 0, .ref (K 1 0), .ref (K 2 0), .int (S.c 4), .int (S.c 5), .int (S.c 6), .int (S.c 9), .int (S.c 10), .int (S.c 8), .int (S.c 13), .int (S.c 7), .int (S.c 11), .int (S.c 14), .ref (K 3 0), .ref (K 4 0), .ref (K 5 0), .double X.ne, .int (nI X.T), .int X.il, .double X.h, .double X.v, .long X.sm]) rfl dX7_quiver_2 ?_
  refine aw_re (P := fun μ1 => RM g K e0 S (X.wth 0) μ1 ∧ FrM K S.nA S.nQ μ μ1) ⟨hM.setX (X.wth 0) rfl rfl rfl, (FrM.rf : FrM K S.nA S.nQ μ μ).mpw (m0 (by decide))⟩ (fun μ1 hq => ?_)
  obtain ⟨hM1, hF1⟩ := hq
  refine aw_iload_n C dX7_quiver_5 rfl ?_
  refine aw_sipush C (v := 200) (by decide) dX7_quiver_6 ?_
  refine aw_sipush C (v := 600) (by decide) dX7_quiver_9 ?_
  refine aw_callS (n := 3) C hE (k_X7_is (x := x) (lo := 200) (hi := 600) B) gX7_quiver_X7_is rfl ⟨rfl, rfl⟩ (by decide +kernel) ⟨by decide, by decide⟩ rfl rfl (Nat.le_of_ble_eq_true rfl) dX7_quiver_12 ⟨by decide, by decide⟩ (fun v μ' hp => ?_)
  obtain ⟨rfl, hm9⟩ := hp
  replace hm9 := hm9.symm
  subst hm9
  refine aw_st (st' := [.int (if btw x 200 600 = true then 1 else 0)]) rfl ?_
  by_cases b12 : btw x 200 600 = true
  · refine aw_eqi (y := 1) (if_pos b12) ?_
    refine aw_if_eq C (tgt := 31) dX7_quiver_15 (by decide) (fun c9 => absurd c9 (by decide)) (fun _ => ?_)
    refine aw_iload_n C dX7_quiver_18 rfl ?_
    refine aw_sipush C (v := 300) (by decide) dX7_quiver_19 ?_
    refine aw_sipush C (v := 1100) (by decide) dX7_quiver_22 ?_
    refine aw_callS (n := 3) C hE (k_X7_is (x := y) (lo := 300) (hi := 1100) B) gX7_quiver_X7_is rfl ⟨rfl, rfl⟩ (by decide +kernel) ⟨by decide, by decide⟩ rfl rfl (Nat.le_of_ble_eq_true rfl) dX7_quiver_25 ⟨by decide, by decide⟩ (fun v μ' hp => ?_)
    obtain ⟨rfl, hm9⟩ := hp
    replace hm9 := hm9.symm
    subst hm9
    refine aw_st (st' := [.int (if btw y 300 1100 = true then 1 else 0)]) rfl ?_
    by_cases b25 : btw y 300 1100 = true
    · refine aw_eqi (y := 1) (if_pos b25) ?_
      refine aw_if_ne C (tgt := 37) dX7_quiver_28 (by decide) (fun _ => ?_) (fun c9 => absurd c9 (by decide))
      refine aw_aload_n C dX7_quiver_37 rfl ?_
      refine aw_get C f16 hM1.mo rfl dX7_quiver_38 ?_
      refine aw_callV (n := 0) C hE (ci := 1) (q := (RJx4a65c, TJx4a65c, 3)) (k_Jx4a65c_size_8abf5 B hM1.qL) gX7_quiver_Jx4a65c_size_8abf5 rfl ⟨rfl, rfl⟩ (by decide +kernel) ⟨by decide, by decide⟩ rfl rfl hM1.qL rfl (Nat.le_of_ble_eq_true rfl) dX7_quiver_41 ⟨by decide, by decide⟩ (fun v μ' hp => ?_)
      obtain ⟨rfl, hm9⟩ := hp
      replace hm9 := hm9.symm
      subst hm9
      refine aw_st (st' := [.int (nI S.nQ)]) rfl ?_
      refine aw_bipush C (v := 6) (by decide) dX7_quiver_44 ?_
      refine aw_icmp_ne C (tgt := 55) dX7_quiver_46 (by decide) (fun c_46 => ?_) (fun c_46 => ?_)
      · have h6 : S.nQ < 6 := by have h := hI.Q6; rcases Nat.lt_or_eq_of_le h with q | q; exact q; exact absurd (show nI S.nQ = 6 by rw [q]; rfl) c_46
        have hF0 := (hI.2.2.2.2.2.2.1 S.nQ (Nat.le_refl _)).2
        have e9Q : S.q S.nQ = (fun _ => 0) := (hI.2.2.2.2.2.2.1 S.nQ (Nat.le_refl _)).1
        refine aw_new C (ci := 8) (fs := [.int 0, .int 0, .null, .null, .null]) in_RX6 tyX6 ntX6.1 (by decide +kernel) (by decide +kernel) (by decide +kernel) rfl ntX6.2 (by decide) (by decide) dX7_quiver_55 (fun o1 zo1 fo1 => ?_)
        refine aw_dup C rfl dX7_quiver_58 ?_
        refine aw_callIN (n := 0) C hE (k_X6_init B mp_s) ggX7_quiver_X6_init (by decide +kernel) B.mnRX7_76 (by decide +kernel) rfl rfl ⟨rfl, rfl⟩ (by decide +kernel) ⟨by decide, by decide⟩ rfl rfl (Nat.le_of_ble_eq_true rfl) dX7_quiver_59 ⟨by decide, by decide⟩ (fun v μ' hp => ?_)
        obtain ⟨rfl, hKq, st9, hh9, vv9, f1, f2, f3, hn9, e1, e2, e3, e4⟩ := hp
        have hk8 : KpB μ1 μ' := fun b x hb => hKq b x (mp_k hb (nn_ne fo1 hb)) (nn_ne fo1 hb)
        refine aw_st (st' := [.ref o1]) rfl ?_
        refine aw_re (P := fun μz => KpB μ1 μz ∧ μz o1 = some (eXq (fun _ => 0) st9 hh9 vv9) ∧ μz st9 = some (eI g 12 (fun _ => 0)) ∧ μz hh9 = some (eD g 12 (fun _ => 0)) ∧ μz vv9 = some (eD g 12 (fun _ => 0))) ⟨hk8, e1, e2, e3, e4⟩ (fun μq hq => ?_)
        obtain ⟨hk7, e5, e6, e7, e8⟩ := hq
        have g1 := (mp_none f1).1
        have g2 := (mp_none f2).1
        have g3 := (mp_none f3).1
        refine aw_astore_n C dX7_quiver_62 (by decide) ?_
        refine aw_aload_n C dX7_quiver_63 rfl ?_
        refine aw_iload_n C dX7_quiver_64 rfl ?_
        refine aw_putNE C hE f77 ftX6 (ty := .int) (by decide +kernel) rfl rfl e5 (Nat.le_of_ble_eq_true rfl) (fs' := [.int x, .int 0, .ref st9, .ref hh9, .ref vv9]) rfl dX7_quiver_65 ?_
        refine aw_aload_n C dX7_quiver_68 rfl ?_
        refine aw_iload_n C dX7_quiver_69 rfl ?_
        refine aw_putNE C hE f80 ftX6 (ty := .int) (by decide +kernel) rfl rfl mp_s (Nat.le_of_ble_eq_true rfl) (fs' := [.int x, .int y, .ref st9, .ref hh9, .ref vv9]) rfl dX7_quiver_70 ?_
        refine aw_mu mp_mp ?_
        refine aw_aload_n C dX7_quiver_73 rfl ?_
        refine aw_get C f16 (mp_k (hk7 _ _ hM1.mo) (nn_ne fo1 hM1.mo)) rfl dX7_quiver_74 ?_
        refine aw_aload_n C dX7_quiver_77 rfl ?_
        refine aw_re (P := fun μz => KpB μ1 μz ∧ μz o1 = some (eXq (upd (upd (S.q S.nQ) 0 x) 1 y) st9 hh9 vv9) ∧ μz st9 = some (eI g 12 (fun _ => 0)) ∧ μz hh9 = some (eD g 12 (fun _ => 0)) ∧ μz vv9 = some (eD g 12 (fun _ => 0))) ⟨fun a9 x9 h9 => mp_k (hk7 _ _ h9) (nn_ne fo1 h9), by rw [e9Q]; exact mp_s, mp_k e6 (tag_ne e6 e5 rfl), mp_k e7 (tag_ne e7 e5 rfl), mp_k e8 (tag_ne e8 e5 rfl)⟩ (fun μh hq => ?_)
        obtain ⟨hk, ho, hb8, hc8, hd8⟩ := hq
        by_cases hz : S.nQ = 0
        · have hal : μh (K 2 0) = some (eAl 0 e0 0) := hk _ _ (by have h := hM1.qL; rw [if_pos hz, hz] at h; exact h)
          refine aw_callV (n := 1) C hE (ci := 1) (q := (RJx4a65c, TJx4a65c, 3)) (k_addFQ B bl hal ho) gX7_quiver_Jx4a65c_add_9ea2d rfl ⟨rfl, rfl⟩ (by decide +kernel) ⟨by decide, by decide⟩ rfl rfl hal rfl (Nat.le_of_ble_eq_true rfl) dX7_quiver_78 ⟨by decide, by decide⟩ (fun v μ' hp => ?_)
          obtain ⟨rfl, o2, p1, p2, p3, p4, p5⟩ := hp
          obtain ⟨hRg, hFg, hNg⟩ := growQ_F hM1 hF0 hz fo1 g1 g2 g3 hn9 hk ho hb8 hc8 hd8 p1 p3 p4 p5
          have hm0 := p5 _ _ (hk _ _ hM1.mo) (hM1.ki.ne (m0 (by decide)) (m0 (by decide)) (Or.inl (by decide)))
          refine aw_st (st' := [.int 1]) rfl ?_
          refine aw_pop C rfl dX7_quiver_81 ?_
          refine aw_aload_n C dX7_quiver_82 rfl ?_
          refine aw_get C f16 hm0 rfl dX7_quiver_83 ?_
          refine aw_callV (n := 0) C hE (ci := 1) (q := (RJx4a65c, TJx4a65c, 3)) (k_Jx4a65c_size_8abf5 B p4) gX7_quiver_Jx4a65c_size_8abf5 rfl ⟨rfl, rfl⟩ (by decide +kernel) ⟨by decide, by decide⟩ rfl rfl p4 rfl (Nat.le_of_ble_eq_true rfl) dX7_quiver_86 ⟨by decide, by decide⟩ (fun v μ' hp => ?_)
          obtain ⟨rfl, hm9⟩ := hp
          replace hm9 := hm9.symm
          subst hm9
          refine aw_st (st' := [.int 1]) rfl ?_
          refine aw_iconst C (v := 1) (by decide) dX7_quiver_89 ?_
          refine aw_isub C dX7_quiver_90 ?_
          refine aw_iret C hQe ?_ (by omega) (by omega) dX7_quiver_91
          have hc : quC S x y = 0 := by simp [quC, b12, b25, h6]
          rw [hc]
          exact ⟨⟨_, rfl, fun _ => by rw [hz]; rfl⟩, KQ K S.nQ (N4 o1 st9 hh9 vv9) o2, rfl, ⟨X.wth 0, hRg, ⟨hR.1, hR.2.1, hR.2.2⟩, rfl⟩, hF1.tr hFg, GrN.back hNg hM1 hF1⟩
        · have hz2 : 0 < S.nQ := Nat.pos_of_ne_zero hz
          have hal : μh (K 2 0) = some (eAl (nI S.nQ) (K 7 0) (nI S.nQ)) := hk _ _ (by have h := hM1.qL; rw [if_neg hz] at h; exact h)
          refine aw_callV (n := 1) C hE (ci := 1) (q := (RJx4a65c, TJx4a65c, 3)) (k_addNQ B hal (hk _ _ (hM1.qE hz2)) (by have := hI.Q6; omega) ho) gX7_quiver_Jx4a65c_add_9ea2d rfl ⟨rfl, rfl⟩ (by decide +kernel) ⟨by decide, by decide⟩ rfl rfl hal rfl (Nat.le_of_ble_eq_true rfl) dX7_quiver_78 ⟨by decide, by decide⟩ (fun v μ' hp => ?_)
          obtain ⟨rfl, p2, p3, p4⟩ := hp
          obtain ⟨hRg, hFg, hNg⟩ := growQ_N hM1 hF0 hz2 fo1 g1 g2 g3 hn9 hk ho hb8 hc8 hd8 p2 p3 p4
          have hm0 := p4 _ _ (hk _ _ hM1.mo) (hM1.ki.ne (m0 (by decide)) (m0 (by decide)) (Or.inl (by decide))) (hM1.ki.ne (m0 (by decide)) (m7 hz2) (Or.inl (by decide)))
          refine aw_st (st' := [.int 1]) rfl ?_
          refine aw_pop C rfl dX7_quiver_81 ?_
          refine aw_aload_n C dX7_quiver_82 rfl ?_
          refine aw_get C f16 hm0 rfl dX7_quiver_83 ?_
          refine aw_callV (n := 0) C hE (ci := 1) (q := (RJx4a65c, TJx4a65c, 3)) (k_Jx4a65c_size_8abf5 B p3) gX7_quiver_Jx4a65c_size_8abf5 rfl ⟨rfl, rfl⟩ (by decide +kernel) ⟨by decide, by decide⟩ rfl rfl p3 rfl (Nat.le_of_ble_eq_true rfl) dX7_quiver_86 ⟨by decide, by decide⟩ (fun v μ' hp => ?_)
          obtain ⟨rfl, hm9⟩ := hp
          replace hm9 := hm9.symm
          subst hm9
          refine aw_st (st' := [.int (nI (S.nQ + 1))]) rfl ?_
          refine aw_iconst C (v := 1) (by decide) dX7_quiver_89 ?_
          refine aw_isub C dX7_quiver_90 ?_
          refine aw_iret C hQe ?_ (by omega) (by omega) dX7_quiver_91
          have hc : quC S x y = 0 := by simp [quC, b12, b25, h6]
          rw [hc]
          exact ⟨⟨_, rfl, fun _ => nI_pred1 _⟩, KQ K S.nQ (N4 o1 st9 hh9 vv9) (K 7 0), rfl, ⟨X.wth 0, hRg, ⟨hR.1, hR.2.1, hR.2.2⟩, rfl⟩, hF1.tr hFg, GrN.back hNg hM1 hF1⟩
      · refine aw_aload_n C dX7_quiver_49 rfl ?_
        refine aw_iconst C (v := 2) (by decide) dX7_quiver_50 ?_
        refine aw_callV (n := 1) C hE (ci := 9) (q := (RX7, TX7, 22)) (k_X7_refuse (x := 2) B hM1) gX7_quiver_X7_refuse rfl ⟨rfl, rfl⟩ (by decide +kernel) ⟨by decide, by decide⟩ rfl rfl hM1.mo rfl (Nat.le_of_ble_eq_true rfl) dX7_quiver_51 ⟨by decide, by decide⟩ (fun v μ' hp => ?_)
        obtain ⟨rfl, hM2, hG2⟩ := hp
        have hF2 : FrM K S.nA S.nQ μ _ := hF1.tr hG2
        refine aw_st (st' := [.int 0]) rfl ?_
        refine aw_iret C hQe ?_ (by omega) (by omega) dX7_quiver_54
        have e6 : S.nQ = 6 := nI_inj (b := 6) (by have := hI.Q6; omega) (by decide) c_46
        have hc : quC S x y = 2 := by simp [quC, b12, b25, e6]
        rw [hc]
        exact ⟨⟨_, rfl, fun q => absurd q (by decide)⟩, K, rfl, ⟨_, hM2, hR, rfl⟩, hF2, GrN.rf⟩
    · refine aw_eqi (y := 0) (if_neg b25) ?_
      refine aw_if_ne C (tgt := 37) dX7_quiver_28 (by decide) (fun c9 => absurd (by decide) c9) (fun _ => ?_)
      refine aw_aload_n C dX7_quiver_31 rfl ?_
      refine aw_iconst C (v := 1) (by decide) dX7_quiver_32 ?_
      refine aw_callV (n := 1) C hE (ci := 9) (q := (RX7, TX7, 22)) (k_X7_refuse (x := 1) B hM1) gX7_quiver_X7_refuse rfl ⟨rfl, rfl⟩ (by decide +kernel) ⟨by decide, by decide⟩ rfl rfl hM1.mo rfl (Nat.le_of_ble_eq_true rfl) dX7_quiver_33 ⟨by decide, by decide⟩ (fun v μ' hp => ?_)
      obtain ⟨rfl, hM2, hG2⟩ := hp
      have hF2 : FrM K S.nA S.nQ μ _ := hF1.tr hG2
      refine aw_st (st' := [.int 0]) rfl ?_
      refine aw_iret C hQe ?_ (by omega) (by omega) dX7_quiver_36
      have hc : quC S x y = 1 := by simp [quC, b12, b25]
      rw [hc]
      exact ⟨⟨_, rfl, fun q => absurd q (by decide)⟩, K, rfl, ⟨_, hM2, hR, rfl⟩, hF2, GrN.rf⟩
  · refine aw_eqi (y := 0) (if_neg b12) ?_
    refine aw_if_eq C (tgt := 31) dX7_quiver_15 (by decide) (fun _ => ?_) (fun c9 => absurd (by decide) c9)
    refine aw_aload_n C dX7_quiver_31 rfl ?_
    refine aw_iconst C (v := 1) (by decide) dX7_quiver_32 ?_
    refine aw_callV (n := 1) C hE (ci := 9) (q := (RX7, TX7, 22)) (k_X7_refuse (x := 1) B hM1) gX7_quiver_X7_refuse rfl ⟨rfl, rfl⟩ (by decide +kernel) ⟨by decide, by decide⟩ rfl rfl hM1.mo rfl (Nat.le_of_ble_eq_true rfl) dX7_quiver_33 ⟨by decide, by decide⟩ (fun v μ' hp => ?_)
    obtain ⟨rfl, hM2, hG2⟩ := hp
    have hF2 : FrM K S.nA S.nQ μ _ := hF1.tr hG2
    refine aw_st (st' := [.int 0]) rfl ?_
    refine aw_iret C hQe ?_ (by omega) (by omega) dX7_quiver_36
    have hc : quC S x y = 1 := by simp [quC, b12]
    rw [hc]
    exact ⟨⟨_, rfl, fun q => absurd q (by decide)⟩, K, rfl, ⟨_, hM2, hR, rfl⟩, hF2, GrN.rf⟩
end KM9
