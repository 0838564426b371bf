section LEAF
variable {l : Launch} {s0 : State} {D : va_G} {g : Nat → ClassId}
set_option maxRecDepth 100000 in
set_option maxHeartbeats 4000000 in
/-- the speed -/
theorem k_X0_speedWith (B : Base s0) {μ : mu} {a b st hh vv : Nat} {A q : Nat → Int32} {cr : UInt32} (h1 : μ a = some (eAr A cr)) (h2 : μ b = some (eQu q st hh vv)) (hd : 20 ≤ (A 0).toInt ∧ (A 0).toInt ≤ 60) (hm : 200 ≤ (q 0).toInt ∧ (q 0).toInt ≤ 600) (hc : CrOk cr) : Ct l yX0_speedWith wsX0_speedWith (rmOf 0 0 0 0) s0 D (tyL g) [.ref a, .ref b] μ 0 0 (fun v μ' => v = some (.double (spd (A 0) (q 0) cr)) ∧ μ' = μ) := by
  refine Ct.of (cc := cX0_speedWith) (own := RX0) (maxL := 2) (ret := (some .double)) (by decide) rfl rfl (Nat.le_of_ble_eq_true rfl) ?_
  intro p e s m args below meth c Q C hE hnm hQe
  have in_RX0 : ∀ w ∈ u_ws RX0 TX0 12, w ∈ wsX0_speedWith := by decide +kernel
  have in_RX3 : ∀ w ∈ u_ws RX3 TX3 5, w ∈ wsX0_speedWith := by decide +kernel
  have f15 : FL wsX0_speedWith RX0 15 2 "ArrowField$Archer" RX0 TX0 12 0 := ⟨in_RX0, rfl, by decide, by decide +kernel, Or.inl rfl⟩
  have k18 : Cond.constantDouble RX0 18 (4648488871632306176) ∈ wsX0_speedWith := by decide +kernel
  have f20 : FL wsX0_speedWith RX0 20 5 "ArrowField$Quiver" RX3 TX3 5 0 := ⟨in_RX3, rfl, by decide, by decide +kernel, Or.inl rfl⟩
  have k25 : Cond.constantDouble RX0 25 (4641240890982006784) ∈ wsX0_speedWith := by decide +kernel
  have f27 : FL wsX0_speedWith RX0 27 2 "ArrowField$Archer" RX0 TX0 12 4 := ⟨in_RX0, rfl, by decide, by decide +kernel, Or.inl rfl⟩
  obtain ⟨s1, s2, s3, s4, s5, s6, -, -⟩ := spd_ok hd hm hc
  refine aw_aload_n C dX0_speedWith_0 rfl ?_
  refine aw_get C f15 h1 rfl dX0_speedWith_1 ?_
  refine aw_i2d C dX0_speedWith_4 ?_
  refine aw_ldc2d C k18 dX0_speedWith_5 ?_
  refine aw_dmul C s1 dX0_speedWith_8 ?_
  refine aw_aload_n C dX0_speedWith_9 rfl ?_
  refine aw_get C f20 h2 rfl dX0_speedWith_10 ?_
  refine aw_i2d C dX0_speedWith_13 ?_
  refine aw_ldc2d C k25 dX0_speedWith_14 ?_
  refine aw_dadd C s2 dX0_speedWith_17 ?_
  refine aw_ddiv C s3 dX0_speedWith_18 ?_
  refine aw_dconst1 C dX0_speedWith_19 ?_
  refine aw_aload_n C dX0_speedWith_20 rfl ?_
  refine aw_get C f27 h1 rfl dX0_speedWith_21 ?_
  refine aw_f2d C s4 dX0_speedWith_24 ?_
  refine aw_dsub C s5 dX0_speedWith_25 ?_
  refine aw_dmul C s6 dX0_speedWith_26 ?_
  refine aw_dret C hQe ?_ (by omega) (by omega) dX0_speedWith_27
  exact ⟨rfl, rfl⟩
set_option maxRecDepth 100000 in
set_option maxHeartbeats 4000000 in
/-- one more shot -/
theorem k_X0_count (B : Base s0) {μ : mu} {a : Nat} {A : Nat → Int32} {cr : UInt32} {x : Int32} (h1 : μ a = some (eAr A cr)) (hc : CrOk cr) : Ct l yX0_count wsX0_count (rmOf 0 0 0 0) s0 D (tyL g) [.ref a, .int x] μ 0 0 (fun v μ' => v = none ∧ μ' = mp μ a (eAr (cntA A x) (crNx cr))) := by
  refine Ct.of (cc := cX0_count) (own := RX0) (maxL := 3) (ret := none) (by decide) rfl rfl (Nat.le_of_ble_eq_true rfl) ?_
  intro p e s m args below meth c Q C hE hnm hQe
  have in_RX0 : ∀ w ∈ u_ws RX0 TX0 12, w ∈ wsX0_count := by decide +kernel
  have f31 : FL wsX0_count RX0 31 2 "ArrowField$Archer" RX0 TX0 12 6 := ⟨in_RX0, rfl, by decide, by decide +kernel, Or.inl rfl⟩
  have f34 : FL wsX0_count RX0 34 2 "ArrowField$Archer" RX0 TX0 12 7 := ⟨in_RX0, rfl, by decide, by decide +kernel, Or.inl rfl⟩
  have f37 : FL wsX0_count RX0 37 2 "ArrowField$Archer" RX0 TX0 12 10 := ⟨in_RX0, rfl, by decide, by decide +kernel, Or.inl rfl⟩
  have f40 : FL wsX0_count RX0 40 2 "ArrowField$Archer" RX0 TX0 12 9 := ⟨in_RX0, rfl, by decide, by decide +kernel, Or.inl rfl⟩
  have f27 : FL wsX0_count RX0 27 2 "ArrowField$Archer" RX0 TX0 12 4 := ⟨in_RX0, rfl, by decide, by decide +kernel, Or.inl rfl⟩
  have k46 : Cond.constantFloat RX0 46 (998244352) ∈ wsX0_count := by decide +kernel
  have k47 : Cond.constantFloat RX0 47 (1040187392) ∈ wsX0_count := by decide +kernel
  have f43 : FL wsX0_count RX0 43 2 "ArrowField$Archer" RX0 TX0 12 11 := ⟨in_RX0, rfl, by decide, by decide +kernel, Or.inl rfl⟩
  refine aw_aload_n C dX0_count_0 rfl ?_
  refine aw_dup C rfl dX0_count_1 ?_
  refine aw_get C f31 h1 rfl dX0_count_2 ?_
  refine aw_iconst C (v := 1) (by decide) dX0_count_5 ?_
  refine aw_iadd C dX0_count_6 ?_
  refine aw_putE C f31 ftX0 (ty := .int) (by decide +kernel) rfl rfl h1 (Nat.le_of_ble_eq_true rfl) (fs' := [.int (A 0), .int (A 1), .int (A 2), .int (A 3), .float cr, .int (A 5), .int ((A 6) + 1), .int (A 7), .int (A 8), .int (A 9), .int (A 10), .int (A 11)]) rfl dX0_count_7 ?_
  refine aw_aload_n C dX0_count_10 rfl ?_
  refine aw_dup C rfl dX0_count_11 ?_
  refine aw_get C f34 mp_s rfl dX0_count_12 ?_
  refine aw_iload_n C dX0_count_15 rfl ?_
  refine aw_iadd C dX0_count_16 ?_
  refine aw_putE C f34 ftX0 (ty := .int) (by decide +kernel) rfl rfl mp_s (Nat.le_of_ble_eq_true rfl) (fs' := [.int (A 0), .int (A 1), .int (A 2), .int (A 3), .float cr, .int (A 5), .int ((A 6) + 1), .int ((A 7) + x), .int (A 8), .int (A 9), .int (A 10), .int (A 11)]) rfl dX0_count_17 ?_
  refine aw_mu mp_mp ?_
  refine aw_aload_n C dX0_count_20 rfl ?_
  refine aw_dup C rfl dX0_count_21 ?_
  refine aw_get C f37 mp_s rfl dX0_count_22 ?_
  refine aw_iconst C (v := 1) (by decide) dX0_count_25 ?_
  refine aw_iadd C dX0_count_26 ?_
  refine aw_putE C f37 ftX0 (ty := .int) (by decide +kernel) rfl rfl mp_s (Nat.le_of_ble_eq_true rfl) (fs' := [.int (A 0), .int (A 1), .int (A 2), .int (A 3), .float cr, .int (A 5), .int ((A 6) + 1), .int ((A 7) + x), .int (A 8), .int (A 9), .int ((A 10) + 1), .int (A 11)]) rfl dX0_count_27 ?_
  refine aw_mu mp_mp ?_
  refine aw_aload_n C dX0_count_30 rfl ?_
  refine aw_dup C rfl dX0_count_31 ?_
  refine aw_get C f40 mp_s rfl dX0_count_32 ?_
  refine aw_iload_n C dX0_count_35 rfl ?_
  refine aw_iadd C dX0_count_36 ?_
  refine aw_putE C f40 ftX0 (ty := .int) (by decide +kernel) rfl rfl mp_s (Nat.le_of_ble_eq_true rfl) (fs' := [.int (A 0), .int (A 1), .int (A 2), .int (A 3), .float cr, .int (A 5), .int ((A 6) + 1), .int ((A 7) + x), .int (A 8), .int ((A 9) + x), .int ((A 10) + 1), .int (A 11)]) rfl dX0_count_37 ?_
  refine aw_mu mp_mp ?_
  refine aw_iload_n C dX0_count_40 rfl ?_
  refine aw_bipush C (v := 10) (by decide) dX0_count_41 ?_
  refine aw_icmp_ne C (tgt := 56) dX0_count_43 (by decide) (fun c_43 => ?_) (fun c_43 => ?_)
  · refine aw_aload_n C dX0_count_56 rfl ?_
    refine aw_get C f27 mp_s rfl dX0_count_57 ?_
    refine aw_ldcf C k46 dX0_count_60 ?_
    refine aw_fadd C (crNx_n hc) dX0_count_62 ?_
    refine aw_fstore_n C dX0_count_63 (by decide) ?_
    refine aw_aload_n C dX0_count_64 rfl ?_
    refine aw_fload_n C dX0_count_65 rfl ?_
    refine aw_ldcf C k47 dX0_count_66 ?_
    refine aw_fcmp C dX0_count_68 ?_
    refine aw_if_le C (tgt := 77) dX0_count_69 (by decide) (fun c_69 => ?_) (fun c_69 => ?_)
    · refine aw_fload_n C dX0_count_77 rfl ?_
      refine aw_putE C f27 ftX0 (ty := .float) (by decide +kernel) rfl rfl mp_s (Nat.le_of_ble_eq_true rfl) (fs' := [.int (A 0), .int (A 1), .int (A 2), .int (A 3), .float (FP.fadd cr 998244352), .int (A 5), .int ((A 6) + 1), .int ((A 7) + x), .int (A 8), .int ((A 9) + x), .int ((A 10) + 1), .int (A 11)]) rfl dX0_count_78 ?_
      refine aw_mu mp_mp ?_
      refine aw_vret C hQe ?_ (by omega) (by omega) dX0_count_81
      exact ⟨rfl, by rw [cntA_n c_43]; rw [crNx_s c_69]; rfl⟩
    · refine aw_ldcf C k47 dX0_count_72 ?_
      refine aw_goto C (tgt := 78) dX0_count_74 (by decide) ?_
      refine aw_putE C f27 ftX0 (ty := .float) (by decide +kernel) rfl rfl mp_s (Nat.le_of_ble_eq_true rfl) (fs' := [.int (A 0), .int (A 1), .int (A 2), .int (A 3), .float 1040187392, .int (A 5), .int ((A 6) + 1), .int ((A 7) + x), .int (A 8), .int ((A 9) + x), .int ((A 10) + 1), .int (A 11)]) rfl dX0_count_78 ?_
      refine aw_mu mp_mp ?_
      refine aw_vret C hQe ?_ (by omega) (by omega) dX0_count_81
      exact ⟨rfl, by rw [cntA_n c_43]; rw [crNx_c c_69]; rfl⟩
  · refine aw_aload_n C dX0_count_46 rfl ?_
    refine aw_dup C rfl dX0_count_47 ?_
    refine aw_get C f43 mp_s rfl dX0_count_48 ?_
    refine aw_iconst C (v := 1) (by decide) dX0_count_51 ?_
    refine aw_iadd C dX0_count_52 ?_
    refine aw_putE C f43 ftX0 (ty := .int) (by decide +kernel) rfl rfl mp_s (Nat.le_of_ble_eq_true rfl) (fs' := [.int (A 0), .int (A 1), .int (A 2), .int (A 3), .float cr, .int (A 5), .int ((A 6) + 1), .int ((A 7) + x), .int (A 8), .int ((A 9) + x), .int ((A 10) + 1), .int ((A 11) + 1)]) rfl dX0_count_53 ?_
    refine aw_mu mp_mp ?_
    refine aw_aload_n C dX0_count_56 rfl ?_
    refine aw_get C f27 mp_s rfl dX0_count_57 ?_
    refine aw_ldcf C k46 dX0_count_60 ?_
    refine aw_fadd C (crNx_n hc) dX0_count_62 ?_
    refine aw_fstore_n C dX0_count_63 (by decide) ?_
    refine aw_aload_n C dX0_count_64 rfl ?_
    refine aw_fload_n C dX0_count_65 rfl ?_
    refine aw_ldcf C k47 dX0_count_66 ?_
    refine aw_fcmp C dX0_count_68 ?_
    refine aw_if_le C (tgt := 77) dX0_count_69 (by decide) (fun c_69 => ?_) (fun c_69 => ?_)
    · refine aw_fload_n C dX0_count_77 rfl ?_
      refine aw_putE C f27 ftX0 (ty := .float) (by decide +kernel) rfl rfl mp_s (Nat.le_of_ble_eq_true rfl) (fs' := [.int (A 0), .int (A 1), .int (A 2), .int (A 3), .float (FP.fadd cr 998244352), .int (A 5), .int ((A 6) + 1), .int ((A 7) + x), .int (A 8), .int ((A 9) + x), .int ((A 10) + 1), .int ((A 11) + 1)]) rfl dX0_count_78 ?_
      refine aw_mu mp_mp ?_
      refine aw_vret C hQe ?_ (by omega) (by omega) dX0_count_81
      exact ⟨rfl, by rw [cntA_t c_43]; rw [crNx_s c_69]; rfl⟩
    · refine aw_ldcf C k47 dX0_count_72 ?_
      refine aw_goto C (tgt := 78) dX0_count_74 (by decide) ?_
      refine aw_putE C f27 ftX0 (ty := .float) (by decide +kernel) rfl rfl mp_s (Nat.le_of_ble_eq_true rfl) (fs' := [.int (A 0), .int (A 1), .int (A 2), .int (A 3), .float 1040187392, .int (A 5), .int ((A 6) + 1), .int ((A 7) + x), .int (A 8), .int ((A 9) + x), .int ((A 10) + 1), .int ((A 11) + 1)]) rfl dX0_count_78 ?_
      refine aw_mu mp_mp ?_
      refine aw_vret C hQe ?_ (by omega) (by omega) dX0_count_81
      exact ⟨rfl, by rw [cntA_t c_43]; rw [crNx_c c_69]; rfl⟩
set_option maxRecDepth 100000 in
set_option maxHeartbeats 4000000 in
theorem k_X0_forgetEnd (B : Base s0) {μ : mu} {a : Nat} {A : Nat → Int32} {cr : UInt32} (h1 : μ a = some (eAr A cr)) : Ct l yX0_forgetEnd wsX0_forgetEnd (rmOf 0 0 0 0) s0 D (tyL g) [.ref a] μ 0 0 (fun v μ' => v = none ∧ μ' = mp μ a (eAr (fgtA A) cr)) := by
  refine Ct.of (cc := cX0_forgetEnd) (own := RX0) (maxL := 1) (ret := none) (by decide) rfl rfl (Nat.le_of_ble_eq_true rfl) ?_
  intro p e s m args below meth c Q C hE hnm hQe
  have in_RX0 : ∀ w ∈ u_ws RX0 TX0 12, w ∈ wsX0_forgetEnd := by decide +kernel
  have f40 : FL wsX0_forgetEnd RX0 40 2 "ArrowField$Archer" RX0 TX0 12 9 := ⟨in_RX0, rfl, by decide, by decide +kernel, Or.inl rfl⟩
  have f37 : FL wsX0_forgetEnd RX0 37 2 "ArrowField$Archer" RX0 TX0 12 10 := ⟨in_RX0, rfl, by decide, by decide +kernel, Or.inl rfl⟩
  have f43 : FL wsX0_forgetEnd RX0 43 2 "ArrowField$Archer" RX0 TX0 12 11 := ⟨in_RX0, rfl, by decide, by decide +kernel, Or.inl rfl⟩
  refine aw_aload_n C dX0_forgetEnd_0 rfl ?_
  refine aw_iconst C (v := 0) (by decide) dX0_forgetEnd_1 ?_
  refine aw_putE C f40 ftX0 (ty := .int) (by decide +kernel) rfl rfl h1 (Nat.le_of_ble_eq_true rfl) (fs' := [.int (A 0), .int (A 1), .int (A 2), .int (A 3), .float cr, .int (A 5), .int (A 6), .int (A 7), .int (A 8), .int 0, .int (A 10), .int (A 11)]) rfl dX0_forgetEnd_2 ?_
  refine aw_aload_n C dX0_forgetEnd_5 rfl ?_
  refine aw_iconst C (v := 0) (by decide) dX0_forgetEnd_6 ?_
  refine aw_putE C f37 ftX0 (ty := .int) (by decide +kernel) rfl rfl mp_s (Nat.le_of_ble_eq_true rfl) (fs' := [.int (A 0), .int (A 1), .int (A 2), .int (A 3), .float cr, .int (A 5), .int (A 6), .int (A 7), .int (A 8), .int 0, .int 0, .int (A 11)]) rfl dX0_forgetEnd_7 ?_
  refine aw_mu mp_mp ?_
  refine aw_aload_n C dX0_forgetEnd_10 rfl ?_
  refine aw_iconst C (v := 0) (by decide) dX0_forgetEnd_11 ?_
  refine aw_putE C f43 ftX0 (ty := .int) (by decide +kernel) rfl rfl mp_s (Nat.le_of_ble_eq_true rfl) (fs' := [.int (A 0), .int (A 1), .int (A 2), .int (A 3), .float cr, .int (A 5), .int (A 6), .int (A 7), .int (A 8), .int 0, .int 0, .int 0]) rfl dX0_forgetEnd_12 ?_
  refine aw_mu mp_mp ?_
  refine aw_vret C hQe ?_ (by omega) (by omega) dX0_forgetEnd_15
  exact ⟨rfl, rfl⟩
set_option maxRecDepth 100000 in
set_option maxHeartbeats 4000000 in
theorem k_X2_isTurnOfOne (B : Base s0) {μ : mu} {a : Nat} {t : Nat → Int32} {la : UInt64} (h1 : μ a = some (eMt t la)) {k : Nat} (hk : t 7 = nI k) (hk4 : k < 4) : Ct l yX2_isTurnOfOne wsX2_isTurnOfOne (rmOf 0 0 0 0) s0 D (tyL g) [.ref a] μ 0 0 (fun v μ' => v = some (.int (if k % 2 = 0 then 1 else 0)) ∧ μ' = μ) := by
  refine Ct.of (cc := cX2_isTurnOfOne) (own := RX2) (maxL := 1) (ret := (some .boolean)) (by decide) rfl rfl (Nat.le_of_ble_eq_true rfl) ?_
  intro p e s m args below meth c Q C hE hnm hQe
  have in_RX2 : ∀ w ∈ u_ws RX2 TX2 10, w ∈ wsX2_isTurnOfOne := by decide +kernel
  have f48 : FL wsX2_isTurnOfOne RX2 48 4 "ArrowField$Match" RX2 TX2 10 7 := ⟨in_RX2, rfl, by decide, by decide +kernel, Or.inl rfl⟩
  refine aw_aload_n C dX2_isTurnOfOne_0 rfl ?_
  refine aw_get C f48 h1 rfl dX2_isTurnOfOne_1 ?_
  refine aw_iconst C (v := 2) (by decide) dX2_isTurnOfOne_4 ?_
  refine aw_irem C (by decide) dX2_isTurnOfOne_5 ?_
  refine aw_if_ne C (tgt := 13) dX2_isTurnOfOne_6 (by decide) (fun c_6 => ?_) (fun c_6 => ?_)
  · refine aw_iconst C (v := 0) (by decide) dX2_isTurnOfOne_13 ?_
    refine aw_zret C hQe rfl ?_ (by omega) (by omega) dX2_isTurnOfOne_14
    have e4 : t 7 - t 7 / 2 * 2 = nI (k % 2) := by rw [hk]; exact pk_rem (d := 2) (by omega) (by decide) (by decide)
    rw [e4] at c_6
    have e5 : ¬ k % 2 = 0 := fun q => c_6 (by rw [q]; rfl)
    exact ⟨by rw [if_neg e5], rfl⟩
  · refine aw_iconst C (v := 1) (by decide) dX2_isTurnOfOne_9 ?_
    refine aw_goto C (tgt := 14) dX2_isTurnOfOne_10 (by decide) ?_
    refine aw_zret C hQe rfl ?_ (by omega) (by omega) dX2_isTurnOfOne_14
    have e4 : t 7 - t 7 / 2 * 2 = nI (k % 2) := by rw [hk]; exact pk_rem (d := 2) (by omega) (by decide) (by decide)
    rw [e4] at c_6
    have e5 : k % 2 = 0 := (nI_eq (a := k % 2) (b := 0) (by omega) (by decide)).mp c_6
    exact ⟨by rw [if_pos e5], rfl⟩
set_option maxRecDepth 100000 in
set_option maxHeartbeats 4000000 in
theorem k_X2_turn (B : Base s0) {μ : mu} {a : Nat} {t : Nat → Int32} {la : UInt64} (h1 : μ a = some (eMt t la)) {k : Nat} (hk : t 7 = nI k) (hk4 : k < 4) : Ct l yX2_turn wsX2_turn (rmOf 1 0 0 40) s0 D (tyL g) [.ref a] μ 0 0 (fun v μ' => v = some (.int (if k % 2 = 0 then t 1 else t 2)) ∧ μ' = μ) := by
  refine Ct.of (cc := cX2_turn) (own := RX2) (maxL := 1) (ret := (some .int)) (by decide) rfl rfl (Nat.le_of_ble_eq_true rfl) ?_
  intro p e s m args below meth c Q C hE hnm hQe
  have in_RX2 : ∀ w ∈ u_ws RX2 TX2 10, w ∈ wsX2_turn := by decide +kernel
  have f15 : FL wsX2_turn RX2 15 4 "ArrowField$Match" RX2 TX2 10 1 := ⟨in_RX2, rfl, by decide, by decide +kernel, Or.inl rfl⟩
  have f19 : FL wsX2_turn RX2 19 4 "ArrowField$Match" RX2 TX2 10 2 := ⟨in_RX2, rfl, by decide, by decide +kernel, Or.inl rfl⟩
  refine aw_aload_n C dX2_turn_0 rfl ?_
  refine aw_callV (n := 0) C hE (ci := 4) (q := (RX2, TX2, 10)) (k_X2_isTurnOfOne B h1 hk hk4) gX2_turn_X2_isTurnOfOne rfl ⟨rfl, rfl⟩ (by decide +kernel) ⟨by decide, by decide⟩ rfl rfl h1 rfl (Nat.le_of_ble_eq_true rfl) dX2_turn_1 ⟨by decide, by decide⟩ (fun v μ' hp => ?_)
  obtain ⟨rfl, hm9⟩ := hp
  replace hm9 := hm9.symm
  subst hm9
  refine aw_st (st' := [.int (if k % 2 = 0 then 1 else 0)]) rfl ?_
  by_cases hs : k % 2 = 0
  · refine aw_eqi (y := 1) (if_pos hs) ?_
    refine aw_if_eq C (tgt := 14) dX2_turn_4 (by decide) (fun c9 => absurd c9 (by decide)) (fun _ => ?_)
    refine aw_aload_n C dX2_turn_7 rfl ?_
    refine aw_get C f15 h1 rfl dX2_turn_8 ?_
    refine aw_goto C (tgt := 18) dX2_turn_11 (by decide) ?_
    refine aw_iret C hQe ?_ (by omega) (by omega) dX2_turn_18
    exact ⟨by rw [if_pos hs], rfl⟩
  · refine aw_eqi (y := 0) (if_neg hs) ?_
    refine aw_if_eq C (tgt := 14) dX2_turn_4 (by decide) (fun _ => ?_) (fun c9 => absurd (by decide) c9)
    refine aw_aload_n C dX2_turn_14 rfl ?_
    refine aw_get C f19 h1 rfl dX2_turn_15 ?_
    refine aw_iret C hQe ?_ (by omega) (by omega) dX2_turn_18
    exact ⟨by rw [if_neg hs], rfl⟩
set_option maxRecDepth 100000 in
set_option maxHeartbeats 4000000 in
theorem k_X2_beginSet (B : Base s0) {μ : mu} {a : Nat} {t : Nat → Int32} {la : UInt64} (h1 : μ a = some (eMt t la)) : Ct l yX2_beginSet wsX2_beginSet (rmOf 0 0 0 0) s0 D (tyL g) [.ref a] μ 0 0 (fun v μ' => v = none ∧ μ' = mp μ a (eMt (bsT t) la)) := by
  refine Ct.of (cc := cX2_beginSet) (own := RX2) (maxL := 1) (ret := none) (by decide) rfl rfl (Nat.le_of_ble_eq_true rfl) ?_
  intro p e s m args below meth c Q C hE hnm hQe
  have in_RX2 : ∀ w ∈ u_ws RX2 TX2 10, w ∈ wsX2_beginSet := by decide +kernel
  have f42 : FL wsX2_beginSet RX2 42 4 "ArrowField$Match" RX2 TX2 10 5 := ⟨in_RX2, rfl, by decide, by decide +kernel, Or.inl rfl⟩
  have f45 : FL wsX2_beginSet RX2 45 4 "ArrowField$Match" RX2 TX2 10 6 := ⟨in_RX2, rfl, by decide, by decide +kernel, Or.inl rfl⟩
  have f48 : FL wsX2_beginSet RX2 48 4 "ArrowField$Match" RX2 TX2 10 7 := ⟨in_RX2, rfl, by decide, by decide +kernel, Or.inl rfl⟩
  refine aw_aload_n C dX2_beginSet_0 rfl ?_
  refine aw_iconst C (v := 0) (by decide) dX2_beginSet_1 ?_
  refine aw_putE C f42 ftX2 (ty := .int) (by decide +kernel) rfl rfl h1 (Nat.le_of_ble_eq_true rfl) (fs' := [.int (t 0), .int (t 1), .int (t 2), .int (t 3), .int (t 4), .int 0, .int (t 6), .int (t 7), .int (t 8), .double la]) rfl dX2_beginSet_2 ?_
  refine aw_aload_n C dX2_beginSet_5 rfl ?_
  refine aw_iconst C (v := 0) (by decide) dX2_beginSet_6 ?_
  refine aw_putE C f45 ftX2 (ty := .int) (by decide +kernel) rfl rfl mp_s (Nat.le_of_ble_eq_true rfl) (fs' := [.int (t 0), .int (t 1), .int (t 2), .int (t 3), .int (t 4), .int 0, .int 0, .int (t 7), .int (t 8), .double la]) rfl dX2_beginSet_7 ?_
  refine aw_mu mp_mp ?_
  refine aw_aload_n C dX2_beginSet_10 rfl ?_
  refine aw_iconst C (v := 0) (by decide) dX2_beginSet_11 ?_
  refine aw_putE C f48 ftX2 (ty := .int) (by decide +kernel) rfl rfl mp_s (Nat.le_of_ble_eq_true rfl) (fs' := [.int (t 0), .int (t 1), .int (t 2), .int (t 3), .int (t 4), .int 0, .int 0, .int 0, .int (t 8), .double la]) rfl dX2_beginSet_12 ?_
  refine aw_mu mp_mp ?_
  refine aw_vret C hQe ?_ (by omega) (by omega) dX2_beginSet_15
  exact ⟨rfl, rfl⟩
set_option maxRecDepth 100000 in
set_option maxHeartbeats 4000000 in
theorem k_X2_begin (B : Base s0) {μ : mu} {a : Nat} {t : Nat → Int32} {la : UInt64} (h1 : μ a = some (eMt t la)) {x y : Int32} : Ct l yX2_begin wsX2_begin (rmOf 1 0 0 40) s0 D (tyL g) [.ref a, .int x, .int y] μ 0 0 (fun v μ' => v = none ∧ μ' = mp μ a (eMt (bgT x y) la)) := by
  refine Ct.of (cc := cX2_begin) (own := RX2) (maxL := 3) (ret := none) (by decide) rfl rfl (Nat.le_of_ble_eq_true rfl) ?_
  intro p e s m args below meth c Q C hE hnm hQe
  have in_RX2 : ∀ w ∈ u_ws RX2 TX2 10, w ∈ wsX2_begin := by decide +kernel
  have f9 : FL wsX2_begin RX2 9 4 "ArrowField$Match" RX2 TX2 10 0 := ⟨in_RX2, rfl, by decide, by decide +kernel, Or.inl rfl⟩
  have f15 : FL wsX2_begin RX2 15 4 "ArrowField$Match" RX2 TX2 10 1 := ⟨in_RX2, rfl, by decide, by decide +kernel, Or.inl rfl⟩
  have f19 : FL wsX2_begin RX2 19 4 "ArrowField$Match" RX2 TX2 10 2 := ⟨in_RX2, rfl, by decide, by decide +kernel, Or.inl rfl⟩
  have f22 : FL wsX2_begin RX2 22 4 "ArrowField$Match" RX2 TX2 10 3 := ⟨in_RX2, rfl, by decide, by decide +kernel, Or.inl rfl⟩
  have f25 : FL wsX2_begin RX2 25 4 "ArrowField$Match" RX2 TX2 10 4 := ⟨in_RX2, rfl, by decide, by decide +kernel, Or.inl rfl⟩
  have f28 : FL wsX2_begin RX2 28 4 "ArrowField$Match" RX2 TX2 10 8 := ⟨in_RX2, rfl, by decide, by decide +kernel, Or.inl rfl⟩
  refine aw_aload_n C dX2_begin_0 rfl ?_
  refine aw_iconst C (v := 1) (by decide) dX2_begin_1 ?_
  refine aw_putE C f9 ftX2 (ty := .boolean) (by decide +kernel) rfl rfl h1 (Nat.le_of_ble_eq_true rfl) (fs' := [.int 1, .int (t 1), .int (t 2), .int (t 3), .int (t 4), .int (t 5), .int (t 6), .int (t 7), .int (t 8), .double la]) rfl dX2_begin_2 ?_
  refine aw_aload_n C dX2_begin_5 rfl ?_
  refine aw_iload_n C dX2_begin_6 rfl ?_
  refine aw_putE C f15 ftX2 (ty := .int) (by decide +kernel) rfl rfl mp_s (Nat.le_of_ble_eq_true rfl) (fs' := [.int 1, .int x, .int (t 2), .int (t 3), .int (t 4), .int (t 5), .int (t 6), .int (t 7), .int (t 8), .double la]) rfl dX2_begin_7 ?_
  refine aw_mu mp_mp ?_
  refine aw_aload_n C dX2_begin_10 rfl ?_
  refine aw_iload_n C dX2_begin_11 rfl ?_
  refine aw_putE C f19 ftX2 (ty := .int) (by decide +kernel) rfl rfl mp_s (Nat.le_of_ble_eq_true rfl) (fs' := [.int 1, .int x, .int y, .int (t 3), .int (t 4), .int (t 5), .int (t 6), .int (t 7), .int (t 8), .double la]) rfl dX2_begin_12 ?_
  refine aw_mu mp_mp ?_
  refine aw_aload_n C dX2_begin_15 rfl ?_
  refine aw_iconst C (v := 0) (by decide) dX2_begin_16 ?_
  refine aw_putE C f22 ftX2 (ty := .int) (by decide +kernel) rfl rfl mp_s (Nat.le_of_ble_eq_true rfl) (fs' := [.int 1, .int x, .int y, .int 0, .int (t 4), .int (t 5), .int (t 6), .int (t 7), .int (t 8), .double la]) rfl dX2_begin_17 ?_
  refine aw_mu mp_mp ?_
  refine aw_aload_n C dX2_begin_20 rfl ?_
  refine aw_iconst C (v := 0) (by decide) dX2_begin_21 ?_
  refine aw_putE C f25 ftX2 (ty := .int) (by decide +kernel) rfl rfl mp_s (Nat.le_of_ble_eq_true rfl) (fs' := [.int 1, .int x, .int y, .int 0, .int 0, .int (t 5), .int (t 6), .int (t 7), .int (t 8), .double la]) rfl dX2_begin_22 ?_
  refine aw_mu mp_mp ?_
  refine aw_aload_n C dX2_begin_25 rfl ?_
  refine aw_iconst C (v := 0) (by decide) dX2_begin_26 ?_
  refine aw_putE C f28 ftX2 (ty := .boolean) (by decide +kernel) rfl rfl mp_s (Nat.le_of_ble_eq_true rfl) (fs' := [.int 1, .int x, .int y, .int 0, .int 0, .int (t 5), .int (t 6), .int (t 7), .int 0, .double la]) rfl dX2_begin_27 ?_
  refine aw_mu mp_mp ?_
  refine aw_aload_n C dX2_begin_30 rfl ?_
  refine aw_callV (n := 0) C hE (ci := 4) (q := (RX2, TX2, 10)) (k_X2_beginSet (t := bgP t x y) (la := la) B mp_s) gX2_begin_X2_beginSet rfl ⟨rfl, rfl⟩ (by decide +kernel) ⟨by decide, by decide⟩ rfl rfl mp_s rfl (Nat.le_of_ble_eq_true rfl) dX2_begin_31 ⟨by decide, by decide⟩ (fun v μ' hp => ?_)
  obtain ⟨rfl, hm9⟩ := hp
  replace hm9 := hm9.symm
  subst hm9
  refine aw_st (st' := []) rfl ?_
  refine aw_mu mp_mp ?_
  refine aw_vret C hQe ?_ (by omega) (by omega) dX2_begin_34
  exact ⟨rfl, rfl⟩
set_option maxRecDepth 100000 in
set_option maxHeartbeats 4000000 in
theorem k_X2_pointsFor (B : Base s0) {μ : mu} {x y : Int32} : Ct l yX2_pointsFor wsX2_pointsFor (rmOf 0 0 0 0) s0 D (tyL g) [.int x, .int y] μ 0 0 (fun v μ' => v = some (.int (ptF x y)) ∧ μ' = μ) := by
  refine Ct.of (cc := cX2_pointsFor) (own := RX2) (maxL := 2) (ret := (some .int)) (by decide) rfl rfl (Nat.le_of_ble_eq_true rfl) ?_
  intro p e s m args below meth c Q C hE hnm hQe
  refine aw_iload_n C dX2_pointsFor_0 rfl ?_
  refine aw_iload_n C dX2_pointsFor_1 rfl ?_
  refine aw_icmp_ne C (tgt := 7) dX2_pointsFor_2 (by decide) (fun c_2 => ?_) (fun c_2 => ?_)
  · refine aw_iload_n C dX2_pointsFor_7 rfl ?_
    refine aw_iload_n C dX2_pointsFor_8 rfl ?_
    refine aw_icmp_le C (tgt := 16) dX2_pointsFor_9 (by decide) (fun c_9 => ?_) (fun c_9 => ?_)
    · refine aw_iconst C (v := 0) (by decide) dX2_pointsFor_16 ?_
      refine aw_iret C hQe ?_ (by omega) (by omega) dX2_pointsFor_17
      exact ⟨by unfold ptF; rw [if_neg c_2, if_neg (by rw [Int32.not_lt]; exact c_9)], rfl⟩
    · refine aw_iconst C (v := 2) (by decide) dX2_pointsFor_12 ?_
      refine aw_goto C (tgt := 17) dX2_pointsFor_13 (by decide) ?_
      refine aw_iret C hQe ?_ (by omega) (by omega) dX2_pointsFor_17
      exact ⟨by unfold ptF; rw [if_neg c_2, if_pos (by rw [Int32.not_le] at c_9; exact c_9)], rfl⟩
  · refine aw_iconst C (v := 1) (by decide) dX2_pointsFor_5 ?_
    refine aw_iret C hQe ?_ (by omega) (by omega) dX2_pointsFor_6
    exact ⟨by unfold ptF; rw [if_pos c_2], rfl⟩
set_option maxRecDepth 100000 in
set_option maxHeartbeats 4000000 in
theorem k_X2_endSet (B : Base s0) {μ : mu} {a : Nat} {t : Nat → Int32} {la : UInt64} (h1 : μ a = some (eMt t la)) : Ct l yX2_endSet wsX2_endSet (rmOf 1 0 0 40) s0 D (tyL g) [.ref a] μ 0 0 (fun v μ' => v = some (.int (esR t)) ∧ μ' = mp μ a (eMt (esT t) la)) := by
  refine Ct.of (cc := cX2_endSet) (own := RX2) (maxL := 3) (ret := (some .int)) (by decide) rfl rfl (Nat.le_of_ble_eq_true rfl) ?_
  intro p e s m args below meth c Q C hE hnm hQe
  have in_RX2 : ∀ w ∈ u_ws RX2 TX2 10, w ∈ wsX2_endSet := by decide +kernel
  have f22 : FL wsX2_endSet RX2 22 4 "ArrowField$Match" RX2 TX2 10 3 := ⟨in_RX2, rfl, by decide, by decide +kernel, Or.inl rfl⟩
  have f42 : FL wsX2_endSet RX2 42 4 "ArrowField$Match" RX2 TX2 10 5 := ⟨in_RX2, rfl, by decide, by decide +kernel, Or.inl rfl⟩
  have f45 : FL wsX2_endSet RX2 45 4 "ArrowField$Match" RX2 TX2 10 6 := ⟨in_RX2, rfl, by decide, by decide +kernel, Or.inl rfl⟩
  have f25 : FL wsX2_endSet RX2 25 4 "ArrowField$Match" RX2 TX2 10 4 := ⟨in_RX2, rfl, by decide, by decide +kernel, Or.inl rfl⟩
  have f28 : FL wsX2_endSet RX2 28 4 "ArrowField$Match" RX2 TX2 10 8 := ⟨in_RX2, rfl, by decide, by decide +kernel, Or.inl rfl⟩
  have f19 : FL wsX2_endSet RX2 19 4 "ArrowField$Match" RX2 TX2 10 2 := ⟨in_RX2, rfl, by decide, by decide +kernel, Or.inl rfl⟩
  have f15 : FL wsX2_endSet RX2 15 4 "ArrowField$Match" RX2 TX2 10 1 := ⟨in_RX2, rfl, by decide, by decide +kernel, Or.inl rfl⟩
  refine aw_aload_n C dX2_endSet_0 rfl ?_
  refine aw_dup C rfl dX2_endSet_1 ?_
  refine aw_get C f22 h1 rfl dX2_endSet_2 ?_
  refine aw_aload_n C dX2_endSet_5 rfl ?_
  refine aw_get C f42 h1 rfl dX2_endSet_6 ?_
  refine aw_aload_n C dX2_endSet_9 rfl ?_
  refine aw_get C f45 h1 rfl dX2_endSet_10 ?_
  refine aw_callS (n := 2) C hE (k_X2_pointsFor (x := t 5) (y := t 6) B) gX2_endSet_X2_pointsFor rfl ⟨rfl, rfl⟩ (by decide +kernel) ⟨by decide, by decide⟩ rfl rfl (Nat.le_of_ble_eq_true rfl) dX2_endSet_13 ⟨by decide, by decide⟩ (fun v μ' hp => ?_)
  obtain ⟨rfl, hm9⟩ := hp
  replace hm9 := hm9.symm
  subst hm9
  refine aw_st (st' := [.int (ptF (t 5) (t 6)), .int (t 3), .ref a]) rfl ?_
  refine aw_iadd C dX2_endSet_16 ?_
  refine aw_putE C f22 ftX2 (ty := .int) (by decide +kernel) rfl rfl h1 (Nat.le_of_ble_eq_true rfl) (fs' := [.int (t 0), .int (t 1), .int (t 2), .int ((t 3) + (ptF (t 5) (t 6))), .int (t 4), .int (t 5), .int (t 6), .int (t 7), .int (t 8), .double la]) rfl dX2_endSet_17 ?_
  refine aw_aload_n C dX2_endSet_20 rfl ?_
  refine aw_dup C rfl dX2_endSet_21 ?_
  refine aw_get C f25 mp_s rfl dX2_endSet_22 ?_
  refine aw_aload_n C dX2_endSet_25 rfl ?_
  refine aw_get C f45 mp_s rfl dX2_endSet_26 ?_
  refine aw_aload_n C dX2_endSet_29 rfl ?_
  refine aw_get C f42 mp_s rfl dX2_endSet_30 ?_
  refine aw_callS (n := 2) C hE (k_X2_pointsFor (x := t 6) (y := t 5) B) gX2_endSet_X2_pointsFor rfl ⟨rfl, rfl⟩ (by decide +kernel) ⟨by decide, by decide⟩ rfl rfl (Nat.le_of_ble_eq_true rfl) dX2_endSet_33 ⟨by decide, by decide⟩ (fun v μ' hp => ?_)
  obtain ⟨rfl, hm9⟩ := hp
  replace hm9 := hm9.symm
  subst hm9
  refine aw_st (st' := [.int (ptF (t 6) (t 5)), .int (t 4), .ref a]) rfl ?_
  refine aw_iadd C dX2_endSet_36 ?_
  refine aw_putE C f25 ftX2 (ty := .int) (by decide +kernel) rfl rfl mp_s (Nat.le_of_ble_eq_true rfl) (fs' := [.int (t 0), .int (t 1), .int (t 2), .int ((t 3) + (ptF (t 5) (t 6))), .int ((t 4) + (ptF (t 6) (t 5))), .int (t 5), .int (t 6), .int (t 7), .int (t 8), .double la]) rfl dX2_endSet_37 ?_
  refine aw_mu mp_mp ?_
  refine aw_aload_n C dX2_endSet_40 rfl ?_
  refine aw_callV (n := 0) C hE (ci := 4) (q := (RX2, TX2, 10)) (k_X2_beginSet (t := esP t) (la := la) B mp_s) gX2_endSet_X2_beginSet rfl ⟨rfl, rfl⟩ (by decide +kernel) ⟨by decide, by decide⟩ rfl rfl mp_s rfl (Nat.le_of_ble_eq_true rfl) dX2_endSet_41 ⟨by decide, by decide⟩ (fun v μ' hp => ?_)
  obtain ⟨rfl, hm9⟩ := hp
  replace hm9 := hm9.symm
  subst hm9
  refine aw_st (st' := []) rfl ?_
  rw [show (eMt (bsT (esP t)) la : va_E) = .inr (4, [.int (t 0), .int (t 1), .int (t 2), .int (t 3 + ptF (t 5) (t 6)), .int (t 4 + ptF (t 6) (t 5)), .int 0, .int 0, .int 0, .int (t 8), .double la]) from rfl]
  refine aw_mu mp_mp ?_
  refine aw_aload_n C dX2_endSet_44 rfl ?_
  refine aw_get C f22 mp_s rfl dX2_endSet_45 ?_
  refine aw_iconst C (v := 4) (by decide) dX2_endSet_48 ?_
  refine aw_icmp_lt C (tgt := 56) dX2_endSet_49 (by decide) (fun c_49 => ?_) (fun c_49 => ?_)
  · refine aw_iconst C (v := 0) (by decide) dX2_endSet_56 ?_
    refine aw_istore_n C dX2_endSet_57 (by decide) ?_
    refine aw_aload_n C dX2_endSet_58 rfl ?_
    refine aw_get C f25 mp_s rfl dX2_endSet_59 ?_
    refine aw_iconst C (v := 4) (by decide) dX2_endSet_62 ?_
    refine aw_icmp_lt C (tgt := 70) dX2_endSet_63 (by decide) (fun c_63 => ?_) (fun c_63 => ?_)
    · refine aw_iconst C (v := 0) (by decide) dX2_endSet_70 ?_
      refine aw_istore_n C dX2_endSet_71 (by decide) ?_
      refine aw_aload_n C dX2_endSet_72 rfl ?_
      refine aw_iload_n C dX2_endSet_73 rfl ?_
      refine aw_if_eq C (tgt := 85) dX2_endSet_74 (by decide) (fun _ => ?_) (fun c9 => absurd (by decide) c9)
      refine aw_iconst C (v := 0) (by decide) dX2_endSet_85 ?_
      refine aw_putE C f28 ftX2 (ty := .boolean) (by decide +kernel) rfl rfl mp_s (Nat.le_of_ble_eq_true rfl) (fs' := [.int (t 0), .int (t 1), .int (t 2), .int (t 3 + ptF (t 5) (t 6)), .int (t 4 + ptF (t 6) (t 5)), .int 0, .int 0, .int 0, .int 0, .double la]) rfl dX2_endSet_86 ?_
      refine aw_mu mp_mp ?_
      refine aw_iload_n C dX2_endSet_89 rfl ?_
      refine aw_iload_n C dX2_endSet_90 rfl ?_
      refine aw_icmp_ne C (tgt := 96) dX2_endSet_91 (by decide) (fun c9 => absurd (by decide) c9) (fun _ => ?_)
      refine aw_iconst C (v := (-1)) (by decide) dX2_endSet_94 ?_
      refine aw_iret C hQe ?_ (by omega) (by omega) dX2_endSet_95
      exact ⟨by unfold esR; rw [if_pos c_49, if_pos c_63], by unfold esT; rw [if_pos c_49]; rfl⟩
    · refine aw_iconst C (v := 1) (by decide) dX2_endSet_66 ?_
      refine aw_goto C (tgt := 71) dX2_endSet_67 (by decide) ?_
      refine aw_istore_n C dX2_endSet_71 (by decide) ?_
      refine aw_aload_n C dX2_endSet_72 rfl ?_
      refine aw_iload_n C dX2_endSet_73 rfl ?_
      refine aw_if_eq C (tgt := 85) dX2_endSet_74 (by decide) (fun _ => ?_) (fun c9 => absurd (by decide) c9)
      refine aw_iconst C (v := 0) (by decide) dX2_endSet_85 ?_
      refine aw_putE C f28 ftX2 (ty := .boolean) (by decide +kernel) rfl rfl mp_s (Nat.le_of_ble_eq_true rfl) (fs' := [.int (t 0), .int (t 1), .int (t 2), .int (t 3 + ptF (t 5) (t 6)), .int (t 4 + ptF (t 6) (t 5)), .int 0, .int 0, .int 0, .int 0, .double la]) rfl dX2_endSet_86 ?_
      refine aw_mu mp_mp ?_
      refine aw_iload_n C dX2_endSet_89 rfl ?_
      refine aw_iload_n C dX2_endSet_90 rfl ?_
      refine aw_icmp_ne C (tgt := 96) dX2_endSet_91 (by decide) (fun _ => ?_) (fun c9 => absurd c9 (by decide))
      refine aw_iload_n C dX2_endSet_96 rfl ?_
      refine aw_if_eq C (tgt := 107) dX2_endSet_97 (by decide) (fun _ => ?_) (fun c9 => absurd (by decide) c9)
      refine aw_aload_n C dX2_endSet_107 rfl ?_
      refine aw_get C f19 mp_s rfl dX2_endSet_108 ?_
      refine aw_iret C hQe ?_ (by omega) (by omega) dX2_endSet_111
      exact ⟨by unfold esR; rw [if_pos c_49, if_neg c_63], by unfold esT; rw [if_pos c_49]; rfl⟩
  · refine aw_iconst C (v := 1) (by decide) dX2_endSet_52 ?_
    refine aw_goto C (tgt := 57) dX2_endSet_53 (by decide) ?_
    refine aw_istore_n C dX2_endSet_57 (by decide) ?_
    refine aw_aload_n C dX2_endSet_58 rfl ?_
    refine aw_get C f25 mp_s rfl dX2_endSet_59 ?_
    refine aw_iconst C (v := 4) (by decide) dX2_endSet_62 ?_
    refine aw_icmp_lt C (tgt := 70) dX2_endSet_63 (by decide) (fun c_63 => ?_) (fun c_63 => ?_)
    · refine aw_iconst C (v := 0) (by decide) dX2_endSet_70 ?_
      refine aw_istore_n C dX2_endSet_71 (by decide) ?_
      refine aw_aload_n C dX2_endSet_72 rfl ?_
      refine aw_iload_n C dX2_endSet_73 rfl ?_
      refine aw_if_eq C (tgt := 85) dX2_endSet_74 (by decide) (fun c9 => absurd c9 (by decide)) (fun _ => ?_)
      refine aw_iload_n C dX2_endSet_77 rfl ?_
      refine aw_if_eq C (tgt := 85) dX2_endSet_78 (by decide) (fun _ => ?_) (fun c9 => absurd (by decide) c9)
      refine aw_iconst C (v := 0) (by decide) dX2_endSet_85 ?_
      refine aw_putE C f28 ftX2 (ty := .boolean) (by decide +kernel) rfl rfl mp_s (Nat.le_of_ble_eq_true rfl) (fs' := [.int (t 0), .int (t 1), .int (t 2), .int (t 3 + ptF (t 5) (t 6)), .int (t 4 + ptF (t 6) (t 5)), .int 0, .int 0, .int 0, .int 0, .double la]) rfl dX2_endSet_86 ?_
      refine aw_mu mp_mp ?_
      refine aw_iload_n C dX2_endSet_89 rfl ?_
      refine aw_iload_n C dX2_endSet_90 rfl ?_
      refine aw_icmp_ne C (tgt := 96) dX2_endSet_91 (by decide) (fun _ => ?_) (fun c9 => absurd c9 (by decide))
      refine aw_iload_n C dX2_endSet_96 rfl ?_
      refine aw_if_eq C (tgt := 107) dX2_endSet_97 (by decide) (fun c9 => absurd c9 (by decide)) (fun _ => ?_)
      refine aw_aload_n C dX2_endSet_100 rfl ?_
      refine aw_get C f15 mp_s rfl dX2_endSet_101 ?_
      refine aw_goto C (tgt := 111) dX2_endSet_104 (by decide) ?_
      refine aw_iret C hQe ?_ (by omega) (by omega) dX2_endSet_111
      exact ⟨by unfold esR; rw [if_neg c_49, if_pos c_63], by unfold esT; rw [if_neg c_49, if_pos c_63]; rfl⟩
    · refine aw_iconst C (v := 1) (by decide) dX2_endSet_66 ?_
      refine aw_goto C (tgt := 71) dX2_endSet_67 (by decide) ?_
      refine aw_istore_n C dX2_endSet_71 (by decide) ?_
      refine aw_aload_n C dX2_endSet_72 rfl ?_
      refine aw_iload_n C dX2_endSet_73 rfl ?_
      refine aw_if_eq C (tgt := 85) dX2_endSet_74 (by decide) (fun c9 => absurd c9 (by decide)) (fun _ => ?_)
      refine aw_iload_n C dX2_endSet_77 rfl ?_
      refine aw_if_eq C (tgt := 85) dX2_endSet_78 (by decide) (fun c9 => absurd c9 (by decide)) (fun _ => ?_)
      refine aw_iconst C (v := 1) (by decide) dX2_endSet_81 ?_
      refine aw_goto C (tgt := 86) dX2_endSet_82 (by decide) ?_
      refine aw_putE C f28 ftX2 (ty := .boolean) (by decide +kernel) rfl rfl mp_s (Nat.le_of_ble_eq_true rfl) (fs' := [.int (t 0), .int (t 1), .int (t 2), .int (t 3 + ptF (t 5) (t 6)), .int (t 4 + ptF (t 6) (t 5)), .int 0, .int 0, .int 0, .int 1, .double la]) rfl dX2_endSet_86 ?_
      refine aw_mu mp_mp ?_
      refine aw_iload_n C dX2_endSet_89 rfl ?_
      refine aw_iload_n C dX2_endSet_90 rfl ?_
      refine aw_icmp_ne C (tgt := 96) dX2_endSet_91 (by decide) (fun c9 => absurd (by decide) c9) (fun _ => ?_)
      refine aw_iconst C (v := (-1)) (by decide) dX2_endSet_94 ?_
      refine aw_iret C hQe ?_ (by omega) (by omega) dX2_endSet_95
      exact ⟨by unfold esR; rw [if_neg c_49, if_neg c_63], by unfold esT; rw [if_neg c_49, if_neg c_63]; rfl⟩
set_option maxRecDepth 100000 in
set_option maxHeartbeats 4000000 in
theorem k_X2_countLastArrow (B : Base s0) {μ : mu} {a : Nat} {t : Nat → Int32} {la : UInt64} (h1 : μ a = some (eMt t la)) {k : Nat} (hk : t 7 = nI k) (hk4 : k < 4) {d : UInt64} (hd : Nn d) (hl : Nn la) : Ct l yX2_countLastArrow wsX2_countLastArrow (rmOf 1 0 0 40) s0 D (tyL g) [.ref a, .double d] μ 0 0 (fun v μ' => v = some (.int (clR t la d k)) ∧ μ' = mp μ a (eMt (clT t k) (clL la d k))) := by
  refine Ct.of (cc := cX2_countLastArrow) (own := RX2) (maxL := 3) (ret := (some .int)) (by decide) rfl rfl (Nat.le_of_ble_eq_true rfl) ?_
  intro p e s m args below meth c Q C hE hnm hQe
  have in_RX2 : ∀ w ∈ u_ws RX2 TX2 10, w ∈ wsX2_countLastArrow := by decide +kernel
  have f59 : FL wsX2_countLastArrow RX2 59 4 "ArrowField$Match" RX2 TX2 10 9 := ⟨in_RX2, rfl, by decide, by decide +kernel, Or.inl rfl⟩
  have f48 : FL wsX2_countLastArrow RX2 48 4 "ArrowField$Match" RX2 TX2 10 7 := ⟨in_RX2, rfl, by decide, by decide +kernel, Or.inl rfl⟩
  have f19 : FL wsX2_countLastArrow RX2 19 4 "ArrowField$Match" RX2 TX2 10 2 := ⟨in_RX2, rfl, by decide, by decide +kernel, Or.inl rfl⟩
  have f15 : FL wsX2_countLastArrow RX2 15 4 "ArrowField$Match" RX2 TX2 10 1 := ⟨in_RX2, rfl, by decide, by decide +kernel, Or.inl rfl⟩
  refine aw_aload_n C dX2_countLastArrow_0 rfl ?_
  refine aw_callV (n := 0) C hE (ci := 4) (q := (RX2, TX2, 10)) (k_X2_isTurnOfOne B h1 hk hk4) gX2_countLastArrow_X2_isTurnOfOne rfl ⟨rfl, rfl⟩ (by decide +kernel) ⟨by decide, by decide⟩ rfl rfl h1 rfl (Nat.le_of_ble_eq_true rfl) dX2_countLastArrow_1 ⟨by decide, by decide⟩ (fun v μ' hp => ?_)
  obtain ⟨rfl, hm9⟩ := hp
  replace hm9 := hm9.symm
  subst hm9
  refine aw_st (st' := [.int (if k % 2 = 0 then 1 else 0)]) rfl ?_
  by_cases hs : k % 2 = 0
  · refine aw_eqi (y := 1) (if_pos hs) ?_
    refine aw_if_eq C (tgt := 24) dX2_countLastArrow_4 (by decide) (fun c9 => absurd c9 (by decide)) (fun _ => ?_)
    refine aw_aload_n C dX2_countLastArrow_7 rfl ?_
    refine aw_dload_n C dX2_countLastArrow_8 rfl ?_
    refine aw_putE C f59 ftX2 (ty := .double) (by decide +kernel) rfl rfl h1 (Nat.le_of_ble_eq_true rfl) (fs' := [.int (t 0), .int (t 1), .int (t 2), .int (t 3), .int (t 4), .int (t 5), .int (t 6), .int (t 7), .int (t 8), .double d]) rfl dX2_countLastArrow_9 ?_
    refine aw_aload_n C dX2_countLastArrow_12 rfl ?_
    refine aw_dup C rfl dX2_countLastArrow_13 ?_
    refine aw_get C f48 mp_s rfl dX2_countLastArrow_14 ?_
    refine aw_iconst C (v := 1) (by decide) dX2_countLastArrow_17 ?_
    refine aw_iadd C dX2_countLastArrow_18 ?_
    refine aw_putE C f48 ftX2 (ty := .int) (by decide +kernel) rfl rfl mp_s (Nat.le_of_ble_eq_true rfl) (fs' := [.int (t 0), .int (t 1), .int (t 2), .int (t 3), .int (t 4), .int (t 5), .int (t 6), .int ((t 7) + 1), .int (t 8), .double d]) rfl dX2_countLastArrow_19 ?_
    refine aw_mu mp_mp ?_
    refine aw_iconst C (v := (-1)) (by decide) dX2_countLastArrow_22 ?_
    refine aw_iret C hQe ?_ (by omega) (by omega) dX2_countLastArrow_23
    exact ⟨by unfold clR; rw [if_pos hs], by unfold clT clL; simp only [if_pos hs]; rfl⟩
  · refine aw_eqi (y := 0) (if_neg hs) ?_
    refine aw_if_eq C (tgt := 24) dX2_countLastArrow_4 (by decide) (fun _ => ?_) (fun c9 => absurd (by decide) c9)
    refine aw_aload_n C dX2_countLastArrow_24 rfl ?_
    refine aw_iconst C (v := 0) (by decide) dX2_countLastArrow_25 ?_
    refine aw_putE C f48 ftX2 (ty := .int) (by decide +kernel) rfl rfl h1 (Nat.le_of_ble_eq_true rfl) (fs' := [.int (t 0), .int (t 1), .int (t 2), .int (t 3), .int (t 4), .int (t 5), .int (t 6), .int 0, .int (t 8), .double la]) rfl dX2_countLastArrow_26 ?_
    refine aw_dload_n C dX2_countLastArrow_29 rfl ?_
    refine aw_aload_n C dX2_countLastArrow_30 rfl ?_
    refine aw_get C f59 mp_s rfl dX2_countLastArrow_31 ?_
    refine aw_dcmp C dX2_countLastArrow_34 ?_
    refine aw_if_ne C (tgt := 40) dX2_countLastArrow_35 (by decide) (fun c_35 => ?_) (fun c_35 => ?_)
    · refine aw_aload_n C dX2_countLastArrow_40 rfl ?_
      refine aw_get C f59 mp_s rfl dX2_countLastArrow_41 ?_
      refine aw_dload_n C dX2_countLastArrow_44 rfl ?_
      refine aw_dcmp C dX2_countLastArrow_45 ?_
      refine aw_if_ge C (tgt := 56) dX2_countLastArrow_46 (by decide) (fun c_46 => ?_) (fun c_46 => ?_)
      · refine aw_aload_n C dX2_countLastArrow_56 rfl ?_
        refine aw_get C f19 mp_s rfl dX2_countLastArrow_57 ?_
        refine aw_iret C hQe ?_ (by omega) (by omega) dX2_countLastArrow_60
        exact ⟨by unfold clR; rw [if_neg hs, if_neg (fun q => c_35 ((kv_eq0 hd hl .l).mpr q)), if_neg (fun q => absurd ((kv_ge0 hl hd .g).mp c_46) (by omega))], by unfold clT clL; simp only [if_neg hs]; rfl⟩
      · refine aw_aload_n C dX2_countLastArrow_49 rfl ?_
        refine aw_get C f15 mp_s rfl dX2_countLastArrow_50 ?_
        refine aw_goto C (tgt := 60) dX2_countLastArrow_53 (by decide) ?_
        refine aw_iret C hQe ?_ (by omega) (by omega) dX2_countLastArrow_60
        exact ⟨by unfold clR; rw [if_neg hs, if_neg (fun q => c_35 ((kv_eq0 hd hl .l).mpr q)), if_pos (Int.not_le.mp (fun q => c_46 ((kv_ge0 hl hd .g).mpr q)))], by unfold clT clL; simp only [if_neg hs]; rfl⟩
    · refine aw_iconst C (v := (-1)) (by decide) dX2_countLastArrow_38 ?_
      refine aw_iret C hQe ?_ (by omega) (by omega) dX2_countLastArrow_39
      exact ⟨by unfold clR; rw [if_neg hs, if_pos ((kv_eq0 hd hl .l).mp c_35)], by unfold clT clL; simp only [if_neg hs]; rfl⟩
set_option maxRecDepth 100000 in
set_option maxHeartbeats 4000000 in
theorem k_X2_count (B : Base s0) {μ : mu} {a : Nat} {t : Nat → Int32} {la : UInt64} (h1 : μ a = some (eMt t la)) {k : Nat} (hk : t 7 = nI k) (hk4 : k < 4) {x : Int32} {d : UInt64} (hd : Nn d) (hl : Nn la) : Ct l yX2_count wsX2_count (rmOf 2 0 0 80) s0 D (tyL g) [.ref a, .int x, .double d] μ 0 0 (fun v μ' => v = some (.int (ctR t la x d k)) ∧ μ' = mp μ a (eMt (ctT t x k) (ctL t la d k))) := by
  refine Ct.of (cc := cX2_count) (own := RX2) (maxL := 4) (ret := (some .int)) (by decide) rfl rfl (Nat.le_of_ble_eq_true rfl) ?_
  intro p e s m args below meth c Q C hE hnm hQe
  have in_RX2 : ∀ w ∈ u_ws RX2 TX2 10, w ∈ wsX2_count := by decide +kernel
  have f28 : FL wsX2_count RX2 28 4 "ArrowField$Match" RX2 TX2 10 8 := ⟨in_RX2, rfl, by decide, by decide +kernel, Or.inl rfl⟩
  have f42 : FL wsX2_count RX2 42 4 "ArrowField$Match" RX2 TX2 10 5 := ⟨in_RX2, rfl, by decide, by decide +kernel, Or.inl rfl⟩
  have f48 : FL wsX2_count RX2 48 4 "ArrowField$Match" RX2 TX2 10 7 := ⟨in_RX2, rfl, by decide, by decide +kernel, Or.inl rfl⟩
  have f45 : FL wsX2_count RX2 45 4 "ArrowField$Match" RX2 TX2 10 6 := ⟨in_RX2, rfl, by decide, by decide +kernel, Or.inl rfl⟩
  refine aw_aload_n C dX2_count_0 rfl ?_
  refine aw_get C f28 h1 rfl dX2_count_1 ?_
  refine aw_if_eq C (tgt := 13) dX2_count_4 (by decide) (fun c_4 => ?_) (fun c_4 => ?_)
  · refine aw_aload_n C dX2_count_13 rfl ?_
    refine aw_callV (n := 0) C hE (ci := 4) (q := (RX2, TX2, 10)) (k_X2_isTurnOfOne B h1 hk hk4) gX2_count_X2_isTurnOfOne rfl ⟨rfl, rfl⟩ (by decide +kernel) ⟨by decide, by decide⟩ rfl rfl h1 rfl (Nat.le_of_ble_eq_true rfl) dX2_count_14 ⟨by decide, by decide⟩ (fun v μ' hp => ?_)
    obtain ⟨rfl, hm9⟩ := hp
    replace hm9 := hm9.symm
    subst hm9
    refine aw_st (st' := [.int (if k % 2 = 0 then 1 else 0)]) rfl ?_
    by_cases hs : k % 2 = 0
    · refine aw_eqi (y := 1) (if_pos hs) ?_
      refine aw_if_eq C (tgt := 33) dX2_count_17 (by decide) (fun c9 => absurd c9 (by decide)) (fun _ => ?_)
      refine aw_aload_n C dX2_count_20 rfl ?_
      refine aw_dup C rfl dX2_count_21 ?_
      refine aw_get C f42 h1 rfl dX2_count_22 ?_
      refine aw_iload_n C dX2_count_25 rfl ?_
      refine aw_iadd C dX2_count_26 ?_
      refine aw_putE C f42 ftX2 (ty := .int) (by decide +kernel) rfl rfl h1 (Nat.le_of_ble_eq_true rfl) (fs' := [.int (t 0), .int (t 1), .int (t 2), .int (t 3), .int (t 4), .int ((t 5) + x), .int (t 6), .int (t 7), .int (t 8), .double la]) rfl dX2_count_27 ?_
      refine aw_goto C (tgt := 43) dX2_count_30 (by decide) ?_
      refine aw_aload_n C dX2_count_43 rfl ?_
      refine aw_dup C rfl dX2_count_44 ?_
      refine aw_get C f48 mp_s rfl dX2_count_45 ?_
      refine aw_iconst C (v := 1) (by decide) dX2_count_48 ?_
      refine aw_iadd C dX2_count_49 ?_
      refine aw_putE C f48 ftX2 (ty := .int) (by decide +kernel) rfl rfl mp_s (Nat.le_of_ble_eq_true rfl) (fs' := [.int (t 0), .int (t 1), .int (t 2), .int (t 3), .int (t 4), .int ((t 5) + x), .int (t 6), .int ((t 7) + 1), .int (t 8), .double la]) rfl dX2_count_50 ?_
      refine aw_mu mp_mp ?_
      refine aw_aload_n C dX2_count_53 rfl ?_
      refine aw_get C f48 mp_s rfl dX2_count_54 ?_
      refine aw_iconst C (v := 4) (by decide) dX2_count_57 ?_
      refine aw_icmp_ge C (tgt := 65) dX2_count_58 (by decide) (fun c_58 => ?_) (fun c_58 => ?_)
      · refine aw_aload_n C dX2_count_65 rfl ?_
        refine aw_callV (n := 0) C hE (ci := 4) (q := (RX2, TX2, 10)) (k_X2_endSet (t := ctS t x k) (la := la) B (by rw [show eMt (ctS t x k) la = _ from by unfold ctS; simp only [if_pos hs]; rfl]; exact mp_s)) gX2_count_X2_endSet rfl ⟨rfl, rfl⟩ (by decide +kernel) ⟨by decide, by decide⟩ rfl rfl mp_s rfl (Nat.le_of_ble_eq_true rfl) dX2_count_66 ⟨by decide, by decide⟩ (fun v μ' hp => ?_)
        obtain ⟨rfl, hm9⟩ := hp
        replace hm9 := hm9.symm
        subst hm9
        refine aw_st (st' := [.int (esR (ctS t x k))]) rfl ?_
        refine aw_mu mp_mp ?_
        refine aw_iret C hQe ?_ (by omega) (by omega) dX2_count_69
        exact ⟨by unfold ctR; rw [if_pos c_4, if_pos c_58], by unfold ctT ctL; rw [if_pos c_4, if_pos c_4, if_pos c_58]⟩
      · refine aw_iconst C (v := (-1)) (by decide) dX2_count_61 ?_
        refine aw_goto C (tgt := 69) dX2_count_62 (by decide) ?_
        refine aw_iret C hQe ?_ (by omega) (by omega) dX2_count_69
        exact ⟨by unfold ctR; rw [if_pos c_4, if_neg c_58], by unfold ctT ctL; rw [if_pos c_4, if_pos c_4, if_neg c_58]; unfold ctS; simp only [if_pos hs]; rfl⟩
    · refine aw_eqi (y := 0) (if_neg hs) ?_
      refine aw_if_eq C (tgt := 33) dX2_count_17 (by decide) (fun _ => ?_) (fun c9 => absurd (by decide) c9)
      refine aw_aload_n C dX2_count_33 rfl ?_
      refine aw_dup C rfl dX2_count_34 ?_
      refine aw_get C f45 h1 rfl dX2_count_35 ?_
      refine aw_iload_n C dX2_count_38 rfl ?_
      refine aw_iadd C dX2_count_39 ?_
      refine aw_putE C f45 ftX2 (ty := .int) (by decide +kernel) rfl rfl h1 (Nat.le_of_ble_eq_true rfl) (fs' := [.int (t 0), .int (t 1), .int (t 2), .int (t 3), .int (t 4), .int (t 5), .int ((t 6) + x), .int (t 7), .int (t 8), .double la]) rfl dX2_count_40 ?_
      refine aw_aload_n C dX2_count_43 rfl ?_
      refine aw_dup C rfl dX2_count_44 ?_
      refine aw_get C f48 mp_s rfl dX2_count_45 ?_
      refine aw_iconst C (v := 1) (by decide) dX2_count_48 ?_
      refine aw_iadd C dX2_count_49 ?_
      refine aw_putE C f48 ftX2 (ty := .int) (by decide +kernel) rfl rfl mp_s (Nat.le_of_ble_eq_true rfl) (fs' := [.int (t 0), .int (t 1), .int (t 2), .int (t 3), .int (t 4), .int (t 5), .int ((t 6) + x), .int ((t 7) + 1), .int (t 8), .double la]) rfl dX2_count_50 ?_
      refine aw_mu mp_mp ?_
      refine aw_aload_n C dX2_count_53 rfl ?_
      refine aw_get C f48 mp_s rfl dX2_count_54 ?_
      refine aw_iconst C (v := 4) (by decide) dX2_count_57 ?_
      refine aw_icmp_ge C (tgt := 65) dX2_count_58 (by decide) (fun c_58 => ?_) (fun c_58 => ?_)
      · refine aw_aload_n C dX2_count_65 rfl ?_
        refine aw_callV (n := 0) C hE (ci := 4) (q := (RX2, TX2, 10)) (k_X2_endSet (t := ctS t x k) (la := la) B (by rw [show eMt (ctS t x k) la = _ from by unfold ctS; simp only [if_neg hs]; rfl]; exact mp_s)) gX2_count_X2_endSet rfl ⟨rfl, rfl⟩ (by decide +kernel) ⟨by decide, by decide⟩ rfl rfl mp_s rfl (Nat.le_of_ble_eq_true rfl) dX2_count_66 ⟨by decide, by decide⟩ (fun v μ' hp => ?_)
        obtain ⟨rfl, hm9⟩ := hp
        replace hm9 := hm9.symm
        subst hm9
        refine aw_st (st' := [.int (esR (ctS t x k))]) rfl ?_
        refine aw_mu mp_mp ?_
        refine aw_iret C hQe ?_ (by omega) (by omega) dX2_count_69
        exact ⟨by unfold ctR; rw [if_pos c_4, if_pos c_58], by unfold ctT ctL; rw [if_pos c_4, if_pos c_4, if_pos c_58]⟩
      · refine aw_iconst C (v := (-1)) (by decide) dX2_count_61 ?_
        refine aw_goto C (tgt := 69) dX2_count_62 (by decide) ?_
        refine aw_iret C hQe ?_ (by omega) (by omega) dX2_count_69
        exact ⟨by unfold ctR; rw [if_pos c_4, if_neg c_58], by unfold ctT ctL; rw [if_pos c_4, if_pos c_4, if_neg c_58]; unfold ctS; simp only [if_neg hs]; rfl⟩
  · refine aw_aload_n C dX2_count_7 rfl ?_
    refine aw_dload_n C dX2_count_8 rfl ?_
    refine aw_callV (n := 1) C hE (ci := 4) (q := (RX2, TX2, 10)) (k_X2_countLastArrow B h1 hk hk4 hd hl) gX2_count_X2_countLastArrow rfl ⟨rfl, rfl⟩ (by decide +kernel) ⟨by decide, by decide⟩ rfl rfl h1 rfl (Nat.le_of_ble_eq_true rfl) dX2_count_9 ⟨by decide, by decide⟩ (fun v μ' hp => ?_)
    obtain ⟨rfl, hm9⟩ := hp
    replace hm9 := hm9.symm
    subst hm9
    refine aw_st (st' := [.int (clR t la d k)]) rfl ?_
    refine aw_iret C hQe ?_ (by omega) (by omega) dX2_count_12
    exact ⟨by unfold ctR; rw [if_neg c_4], by unfold ctT ctL; rw [if_neg c_4, if_neg c_4]⟩
set_option maxRecDepth 100000 in
set_option maxHeartbeats 4000000 in
theorem k_X1_farness (B : Base s0) {μ : mu} {a : Nat} {h v : UInt64} (h1 : μ a = some (eFl h v)) (hh : Eb 1420 h) (hv : Eb 1420 v) : Ct l yX1_farness wsX1_farness (rmOf 0 0 0 0) s0 D (tyL g) [.ref a] μ 0 0 (fun v9 μ' => v9 = some (.double (farF h v)) ∧ μ' = μ) := by
  refine Ct.of (cc := cX1_farness) (own := RX1) (maxL := 1) (ret := (some .double)) (by decide) rfl rfl (Nat.le_of_ble_eq_true rfl) ?_
  intro p e s m args below meth c Q C hE hnm hQe
  have in_RX1 : ∀ w ∈ u_ws RX1 TX1 2, w ∈ wsX1_farness := by decide +kernel
  have f33 : FL wsX1_farness RX1 33 3 "ArrowField$Flight" RX1 TX1 2 0 := ⟨in_RX1, rfl, by decide, by decide +kernel, Or.inl rfl⟩
  have f39 : FL wsX1_farness RX1 39 3 "ArrowField$Flight" RX1 TX1 2 1 := ⟨in_RX1, rfl, by decide, by decide +kernel, Or.inl rfl⟩
  obtain ⟨s1, s2, s3, -⟩ := farF_ok hh hv
  refine aw_aload_n C dX1_farness_0 rfl ?_
  refine aw_get C f33 h1 rfl dX1_farness_1 ?_
  refine aw_aload_n C dX1_farness_4 rfl ?_
  refine aw_get C f33 h1 rfl dX1_farness_5 ?_
  refine aw_dmul C s1 dX1_farness_8 ?_
  refine aw_aload_n C dX1_farness_9 rfl ?_
  refine aw_get C f39 h1 rfl dX1_farness_10 ?_
  refine aw_aload_n C dX1_farness_13 rfl ?_
  refine aw_get C f39 h1 rfl dX1_farness_14 ?_
  refine aw_dmul C s2 dX1_farness_17 ?_
  refine aw_dadd C s3 dX1_farness_18 ?_
  refine aw_dret C hQe ?_ (by omega) (by omega) dX1_farness_19
  exact ⟨rfl, rfl⟩
set_option maxRecDepth 100000 in
set_option maxHeartbeats 4000000 in
theorem k_X1_worth (B : Base s0) {μ : mu} {a : Nat} {h v : UInt64} (h1 : μ a = some (eFl h v)) {face : Int32} (hh : Eb 1420 h) (hv : Eb 1420 v) : Ct l yX1_worth wsX1_worth (rmOf 1 0 0 40) s0 D (tyL g) [.ref a, .int face] μ 0 0 (fun v9 μ' => v9 = some (.int (wth face (farF h v))) ∧ μ' = μ) := by
  refine Ct.of (cc := cX1_worth) (own := RX1) (maxL := 7) (ret := (some .int)) (by decide) rfl rfl (Nat.le_of_ble_eq_true rfl) ?_
  intro p e s m args below meth c Q C hE hnm hQe
  have k46 : Cond.constantDouble RX1 46 (4634204016564240384) ∈ wsX1_worth := by decide +kernel
  have k56 : Cond.constantDouble RX1 56 (4575657221408423936) ∈ wsX1_worth := by decide +kernel
  have hfn : Nn (farF h v) := (farF_ok hh hv).2.2.2.nn (by decide)
  refine aw_aload_n C dX1_worth_0 rfl ?_
  refine aw_callV (n := 0) C hE (ci := 3) (q := (RX1, TX1, 2)) (k_X1_farness B h1 hh hv) gX1_worth_X1_farness rfl ⟨rfl, rfl⟩ (by decide +kernel) ⟨by decide, by decide⟩ rfl rfl h1 rfl (Nat.le_of_ble_eq_true rfl) dX1_worth_1 ⟨by decide, by decide⟩ (fun v μ' hp => ?_)
  obtain ⟨rfl, hm9⟩ := hp
  replace hm9 := hm9.symm
  subst hm9
  refine aw_st (st' := [.double (farF h v)]) rfl ?_
  refine aw_dstore_n C dX1_worth_4 (by decide) ?_
  refine aw_bipush C (v := 10) (by decide) dX1_worth_5 ?_
  refine aw_istore C dX1_worth_7 (by decide) ?_
  refine aw_lv (lv' := [(0, .ref a), (1, .int face), (2, .double (farF h v)), (4, .int 10)]) ⟨rfl, rfl, rfl, rfl, trivial⟩ ?_
  have loop9 : ∀ (n : Nat) (k : Nat) (x : Int32), k = n → x = nI k → k ≤ 10 → wthN face (farF h v) k = wth face (farF h v) → Aw p l e (rmOf 1 0 0 40) s m args below meth c Q s0.heap.size D 7 μ 0 0 9 [(0, .ref a), (1, .int face), (2, .double (farF h v)), (4, .int x)] [] := by
    intro n
    induction n using Nat.strongRecOn with
    | _ n ih =>
      intro k x hn hx hk hr
      refine aw_iload C dX1_worth_9 rfl ?_
      refine aw_iconst C (v := 1) (by decide) dX1_worth_11 ?_
      refine aw_icmp_lt C (tgt := 52) dX1_worth_12 (by decide) (fun c_12 => ?_) (fun c_12 => ?_)
      · refine aw_iconst C (v := 0) (by decide) dX1_worth_52 ?_
        refine aw_iret C hQe ?_ (by omega) (by omega) dX1_worth_53
        have hk0 : k = 0 := by
          rcases Nat.eq_zero_or_pos k with q | q
          · exact q
          · exact absurd c_12 (by rw [hx]; exact nI_nlt (a := k) (b := 1) (by omega) (by omega))
        subst hk0
        exact ⟨by rw [← hr]; rfl, rfl⟩
      · obtain ⟨k9, rfl⟩ : ∃ k9, k = k9 + 1 := ⟨k - 1, by rcases Nat.eq_zero_or_pos k with q | q; exact absurd (show x < 1 by rw [hx, q]; decide) c_12; omega⟩
        subst hx
        obtain ⟨r1, r2, r3⟩ := radF_ok face (nI (k9 + 1))
        refine aw_iload_n C dX1_worth_15 rfl ?_
        refine aw_bipush C (v := 11) (by decide) dX1_worth_16 ?_
        refine aw_iload C dX1_worth_18 rfl ?_
        refine aw_isub C dX1_worth_20 ?_
        refine aw_imul C dX1_worth_21 ?_
        refine aw_i2d C dX1_worth_22 ?_
        refine aw_ldc2d C k46 dX1_worth_23 ?_
        refine aw_ddiv C r1 dX1_worth_26 ?_
        refine aw_ldc2d C k56 dX1_worth_27 ?_
        refine aw_dadd C r2 dX1_worth_30 ?_
        refine aw_dstore C dX1_worth_31 (by decide) ?_
        refine aw_dload_n C dX1_worth_33 rfl ?_
        refine aw_dload C dX1_worth_34 rfl ?_
        refine aw_dload C dX1_worth_36 rfl ?_
        refine aw_dmul C (r3.n (by decide)) dX1_worth_38 ?_
        refine aw_dcmp C dX1_worth_39 ?_
        refine aw_if_gt C (tgt := 46) dX1_worth_40 (by decide) (fun c_40 => ?_) (fun c_40 => ?_)
        · refine aw_iinc C dX1_worth_46 rfl (by decide) ?_
          have hr9 : wthN face (farF h v) k9 = wth face (farF h v) := by rw [← hr, wthN_s, if_neg (fun q => absurd ((kv_gt0 hfn (r3.nn (by decide)) .g).mp c_40) (by omega))]
          have e9 : nI (k9 + 1) + Int32.ofInt (-1) = nI k9 := pk_m1 k9
          skip
          refine aw_goto C (tgt := 9) dX1_worth_49 (by decide) ?_
          refine aw_lv (lv' := [(0, .ref a), (1, .int face), (2, .double (farF h v)), (4, .int (nI (k9 + 1) + Int32.ofInt (-1)))]) ⟨rfl, rfl, rfl, rfl, trivial⟩ ?_
          exact ih _ (by omega) k9 (nI (k9 + 1) + Int32.ofInt (-1)) rfl (pk_m1 k9) (by omega) hr9
        · refine aw_iload C dX1_worth_43 rfl ?_
          refine aw_iret C hQe ?_ (by omega) (by omega) dX1_worth_45
          exact ⟨by rw [← hr, wthN_s, if_pos (Int.not_lt.mp (fun q => c_40 ((kv_gt0 hfn (r3.nn (by decide)) .g).mpr q)))], rfl⟩
  exact loop9 _ 10 10 rfl rfl (Nat.le_refl 10) rfl
set_option maxRecDepth 100000 in
set_option maxHeartbeats 4000000 in
theorem k_X1_fly (B : Base s0) {μ : mu} {a b d st hh vv : Nat} {h v : UInt64} {A q : Nat → Int32} {cr : UInt32} {sight di wi : Int32} (h1 : μ a = some (eFl h v)) (h2 : μ b = some (eAr A cr)) (h3 : μ d = some (eQu q st hh vv)) (hd : 20 ≤ (A 0).toInt ∧ (A 0).toInt ≤ 60) (hm : 200 ≤ (q 0).toInt ∧ (q 0).toInt ≤ 600) (hc : CrOk cr) (hdi : di.toInt ≤ 90) : Ct l yX1_fly wsX1_fly (rmOf 1 0 0 60) s0 D (tyL g) [.ref a, .ref b, .ref d, .int sight, .int di, .int wi] μ 0 0 (fun v9 μ' => v9 = none ∧ μ' = mp μ a (eFl (flN wi di 150 (tk0 (A 0) (q 0) (q 1) sight (A 3) cr)).2.2.1 (flN wi di 150 (tk0 (A 0) (q 0) (q 1) sight (A 3) cr)).2.1)) := by
  refine Ct.of (cc := cX1_fly) (own := RX1) (maxL := 15) (ret := none) (by decide) rfl rfl (Nat.le_of_ble_eq_true rfl) ?_
  intro p e s m args below meth c Q C hE hnm hQe
  have in_RX0 : ∀ w ∈ u_ws RX0 TX0 12, w ∈ wsX1_fly := by decide +kernel
  have in_RX3 : ∀ w ∈ u_ws RX3 TX3 5, w ∈ wsX1_fly := by decide +kernel
  have in_RX1 : ∀ w ∈ u_ws RX1 TX1 2, w ∈ wsX1_fly := by decide +kernel
  have k15 : Cond.constantDouble RX1 15 (4647714815446351872) ∈ wsX1_fly := by decide +kernel
  have f17 : FL wsX1_fly RX1 17 2 "ArrowField$Archer" RX0 TX0 12 3 := ⟨in_RX0, rfl, by decide, by decide +kernel, Or.inl rfl⟩
  have k21 : Cond.constantDouble RX1 21 (4620693217682128896) ∈ wsX1_fly := by decide +kernel
  have f23 : FL wsX1_fly RX1 23 5 "ArrowField$Quiver" RX3 TX3 5 1 := ⟨in_RX3, rfl, by decide, by decide +kernel, Or.inl rfl⟩
  have f28 : FL wsX1_fly RX1 28 2 "ArrowField$Archer" RX0 TX0 12 0 := ⟨in_RX0, rfl, by decide, by decide +kernel, Or.inl rfl⟩
  have k31 : Cond.constantDouble RX1 31 (4643211215818981376) ∈ wsX1_fly := by decide +kernel
  have f33 : FL wsX1_fly RX1 33 3 "ArrowField$Flight" RX1 TX1 2 0 := ⟨in_RX1, rfl, by decide, by decide +kernel, Or.inl rfl⟩
  have f39 : FL wsX1_fly RX1 39 3 "ArrowField$Flight" RX1 TX1 2 1 := ⟨in_RX1, rfl, by decide, by decide +kernel, Or.inl rfl⟩
  have k42 : Cond.constantDouble RX1 42 (4625196817309499392) ∈ wsX1_fly := by decide +kernel
  have k44 : Cond.constantDouble RX1 44 (4603804719079489536) ∈ wsX1_fly := by decide +kernel
  have k46 : Cond.constantDouble RX1 46 (4634204016564240384) ∈ wsX1_fly := by decide +kernel
  have nba : b ≠ a := fun q9 => by rw [q9, h1] at h2; cases h2
  have nda : d ≠ a := fun q9 => by rw [q9, h1] at h3; cases h3
  obtain ⟨-, -, -, -, -, -, hE9, -⟩ := spd_ok hd hm hc
  obtain ⟨u1, u2, u3, u4, -⟩ := up_ok hE9 sight (A 3)
  refine aw_aload_n C dX1_fly_0 rfl ?_
  refine aw_aload_n C dX1_fly_1 rfl ?_
  refine aw_callV (n := 1) C hE (ci := 2) (q := (RX0, TX0, 12)) (k_X0_speedWith B h2 h3 hd hm hc) gX1_fly_X0_speedWith rfl ⟨rfl, rfl⟩ (by decide +kernel) ⟨by decide, by decide⟩ rfl rfl h2 rfl (Nat.le_of_ble_eq_true rfl) dX1_fly_2 ⟨by decide, by decide⟩ (fun v μ' hp => ?_)
  obtain ⟨rfl, hm9⟩ := hp
  replace hm9 := hm9.symm
  subst hm9
  refine aw_st (st' := [.double (spd (A 0) (q 0) cr)]) rfl ?_
  refine aw_dstore C dX1_fly_5 (by decide) ?_
  refine aw_dload C dX1_fly_7 rfl ?_
  refine aw_iload_n C dX1_fly_9 rfl ?_
  refine aw_i2d C dX1_fly_10 ?_
  refine aw_dmul C u1 dX1_fly_11 ?_
  refine aw_ldc2d C k15 dX1_fly_12 ?_
  refine aw_ddiv C u2 dX1_fly_15 ?_
  refine aw_aload_n C dX1_fly_16 rfl ?_
  refine aw_get C f17 h2 rfl dX1_fly_17 ?_
  refine aw_i2d C dX1_fly_20 ?_
  refine aw_ldc2d C k21 dX1_fly_21 ?_
  refine aw_ddiv C u3 dX1_fly_24 ?_
  refine aw_dadd C u4 dX1_fly_25 ?_
  refine aw_dstore C dX1_fly_26 (by decide) ?_
  refine aw_aload_n C dX1_fly_28 rfl ?_
  refine aw_get C f23 h3 rfl dX1_fly_29 ?_
  refine aw_sipush C (v := 1300) (by decide) dX1_fly_32 ?_
  refine aw_bipush C (v := 14) (by decide) dX1_fly_35 ?_
  refine aw_aload_n C dX1_fly_37 rfl ?_
  refine aw_get C f28 h2 rfl dX1_fly_38 ?_
  refine aw_imul C dX1_fly_41 ?_
  refine aw_isub C dX1_fly_42 ?_
  refine aw_isub C dX1_fly_43 ?_
  refine aw_i2d C dX1_fly_44 ?_
  refine aw_ldc2d C k31 dX1_fly_45 ?_
  refine aw_ddiv C ((as_ok _).n (by decide)) dX1_fly_48 ?_
  refine aw_dstore C dX1_fly_49 (by decide) ?_
  refine aw_dconst0 C dX1_fly_51 ?_
  refine aw_dstore C dX1_fly_52 (by decide) ?_
  refine aw_aload_n C dX1_fly_54 rfl ?_
  refine aw_dconst0 C dX1_fly_55 ?_
  refine aw_putE C f33 ftX1 (ty := .double) (by decide +kernel) rfl rfl h1 (Nat.le_of_ble_eq_true rfl) (fs' := [.double FP.dconst0, .double v]) rfl dX1_fly_56 ?_
  refine aw_aload_n C dX1_fly_59 rfl ?_
  refine aw_dconst0 C dX1_fly_60 ?_
  refine aw_putE C f39 ftX1 (ty := .double) (by decide +kernel) rfl rfl mp_s (Nat.le_of_ble_eq_true rfl) (fs' := [.double FP.dconst0, .double FP.dconst0]) rfl dX1_fly_61 ?_
  refine aw_mu mp_mp ?_
  refine aw_iconst C (v := 0) (by decide) dX1_fly_64 ?_
  refine aw_istore C dX1_fly_65 (by decide) ?_
  refine aw_lv (lv' := [(0, .ref a), (4, .int di), (5, .int wi), (6, .double ((tk0 (A 0) (q 0) (q 1) sight (A 3) cr).2.2.2.1)), (8, .double ((tk0 (A 0) (q 0) (q 1) sight (A 3) cr).2.2.2.2.1)), (10, .double ((tk0 (A 0) (q 0) (q 1) sight (A 3) cr).2.2.2.2.2)), (12, .double ((tk0 (A 0) (q 0) (q 1) sight (A 3) cr).1)), (14, .int 0)]) ⟨rfl, rfl, rfl, rfl, rfl, rfl, rfl, rfl, trivial⟩ ?_
  have loop67 : ∀ (n : Nat) (t : Tk) (k : Nat) (x : Int32), 146 - k = n → x = nI k → k ≤ 146 → TkI k t → flN wi di (150 - k) t = flN wi di 150 (tk0 (A 0) (q 0) (q 1) sight (A 3) cr) → Aw p l e (rmOf 1 0 0 60) s m args below meth c Q s0.heap.size D 15 (mp μ a (eFl t.2.2.1 t.2.1)) 0 0 67 [(0, .ref a), (4, .int di), (5, .int wi), (6, .double t.2.2.2.1), (8, .double t.2.2.2.2.1), (10, .double t.2.2.2.2.2), (12, .double t.1), (14, .int x)] [] := by
    intro n
    induction n using Nat.strongRecOn with
    | _ n ih =>
      intro t k x hn hx hk hI hR
      refine aw_iload C dX1_fly_67 rfl ?_
      refine aw_sipush C (v := 10000) (by decide) dX1_fly_69 ?_
      refine aw_icmp_ge C (tgt := 162) dX1_fly_72 (by decide) (fun c_72 => ?_) (fun c_72 => ?_)
      · exact absurd c_72 (by rw [hx]; exact nI_nle2 hk)
      · refine aw_dload C dX1_fly_75 rfl ?_
        refine aw_iload C dX1_fly_77 rfl ?_
        refine aw_i2d C dX1_fly_79 ?_
        refine aw_dcmp C dX1_fly_80 ?_
        refine aw_if_ge C (tgt := 162) dX1_fly_81 (by decide) (fun c_81 => ?_) (fun c_81 => ?_)
        · refine aw_vret C hQe ?_ (by omega) (by omega) dX1_fly_162
          exact ⟨rfl, by rw [← hR, flN_end (fun q9 => absurd ((kv_ge0 (hI.nx hk) (i2d_nn di) .g).mp c_81) (by omega))]⟩
        · have hlt : dk t.1 < dk (FP.i2d di) := Int.not_le.mp (fun q9 => c_81 ((kv_ge0 (hI.nx hk) (i2d_nn di) .g).mpr q9))
          obtain ⟨s1, s2, s3⟩ := fl_step hI hk hdi hR hlt
          have hb := tk_n hI hk wi
          refine aw_dload C dX1_fly_84 rfl ?_
          refine aw_dload C dX1_fly_86 rfl ?_
          refine aw_ldc2d C k42 dX1_fly_88 ?_
          refine aw_ddiv C hb.1 dX1_fly_91 ?_
          refine aw_dadd C (s1.1.1.n (by omega)) dX1_fly_92 ?_
          refine aw_dstore C dX1_fly_93 (by decide) ?_
          refine aw_aload_n C dX1_fly_95 rfl ?_
          refine aw_dup C rfl dX1_fly_96 ?_
          refine aw_get C f39 mp_s rfl dX1_fly_97 ?_
          refine aw_dload C dX1_fly_100 rfl ?_
          refine aw_ldc2d C k42 dX1_fly_102 ?_
          refine aw_ddiv C hb.2.1 dX1_fly_105 ?_
          refine aw_dadd C (s1.1.2.1.n (by omega)) dX1_fly_106 ?_
          refine aw_putE C f39 ftX1 (ty := .double) (by decide +kernel) rfl rfl mp_s (Nat.le_of_ble_eq_true rfl) (fs' := [.double t.2.2.1, .double (FP.dadd t.2.1 (FP.ddiv t.2.2.2.2.1 4625196817309499392))]) rfl dX1_fly_107 ?_
          refine aw_mu mp_mp ?_
          refine aw_aload_n C dX1_fly_110 rfl ?_
          refine aw_dup C rfl dX1_fly_111 ?_
          refine aw_get C f33 mp_s rfl dX1_fly_112 ?_
          refine aw_dload C dX1_fly_115 rfl ?_
          refine aw_ldc2d C k42 dX1_fly_117 ?_
          refine aw_ddiv C hb.2.2.1 dX1_fly_120 ?_
          refine aw_dadd C (s1.1.2.2.1.n (by omega)) dX1_fly_121 ?_
          refine aw_putE C f33 ftX1 (ty := .double) (by decide +kernel) rfl rfl mp_s (Nat.le_of_ble_eq_true rfl) (fs' := [.double (FP.dadd t.2.2.1 (FP.ddiv t.2.2.2.2.2 4625196817309499392)), .double (FP.dadd t.2.1 (FP.ddiv t.2.2.2.2.1 4625196817309499392))]) rfl dX1_fly_122 ?_
          refine aw_mu mp_mp ?_
          refine aw_dload C dX1_fly_125 rfl ?_
          refine aw_dload C dX1_fly_127 rfl ?_
          refine aw_ldc2d C k31 dX1_fly_129 ?_
          refine aw_ddiv C hb.2.2.2.1 dX1_fly_132 ?_
          refine aw_dsub C (s1.1.2.2.2.1.n (by omega)) dX1_fly_133 ?_
          refine aw_dstore C dX1_fly_134 (by decide) ?_
          refine aw_dload C dX1_fly_136 rfl ?_
          refine aw_ldc2d C k44 dX1_fly_138 ?_
          refine aw_dsub C (s1.1.2.2.2.2.1.n (by omega)) dX1_fly_141 ?_
          refine aw_dstore C dX1_fly_142 (by decide) ?_
          refine aw_dload C dX1_fly_144 rfl ?_
          refine aw_iload C dX1_fly_146 rfl ?_
          refine aw_i2d C dX1_fly_148 ?_
          refine aw_ldc2d C k46 dX1_fly_149 ?_
          refine aw_ddiv C hb.2.2.2.2 dX1_fly_152 ?_
          refine aw_dadd C (s1.1.2.2.2.2.2.n (by omega)) dX1_fly_153 ?_
          refine aw_dstore C dX1_fly_154 (by decide) ?_
          refine aw_iinc C dX1_fly_156 rfl (by decide) ?_
          refine aw_goto C (tgt := 67) dX1_fly_159 (by decide) ?_
          refine aw_lv (lv' := [(0, .ref a), (4, .int di), (5, .int wi), (6, .double ((tk wi t).2.2.2.1)), (8, .double ((tk wi t).2.2.2.2.1)), (10, .double ((tk wi t).2.2.2.2.2)), (12, .double ((tk wi t).1)), (14, .int (x + Int32.ofInt (1)))]) ⟨rfl, rfl, rfl, rfl, rfl, rfl, rfl, rfl, trivial⟩ ?_
          exact ih _ (by omega) (tk wi t) (k + 1) (x + Int32.ofInt (1)) rfl (by rw [hx]; exact nI_inc k) s2 s1 s3
  exact loop67 _ (tk0 (A 0) (q 0) (q 1) sight (A 3) cr) 0 0 rfl rfl (by decide) (tk0_I (q 1) sight (A 3) hd hm hc) rfl
set_option maxRecDepth 100000 in
set_option maxHeartbeats 4000000 in
theorem k_X1_shake (B : Base s0) {μ : mu} {a : Nat} {h v : UInt64} {x y z : Int32} (h1 : μ a = some (eFl h v)) (hh : Eb 1410 h) (hv : Eb 1410 v) : Ct l yX1_shake wsX1_shake (rmOf 0 0 0 0) s0 D (tyL g) [.ref a, .int x, .int y, .int z] μ 0 0 (fun v9 μ' => v9 = none ∧ μ' = mp μ a (eFl (FP.dadd h (shkF (x - x / 8 * 8) y z)) (FP.dadd v (shkF (x / 8) y z)))) := by
  refine Ct.of (cc := cX1_shake) (own := RX1) (maxL := 4) (ret := none) (by decide) rfl rfl (Nat.le_of_ble_eq_true rfl) ?_
  intro p e s m args below meth c Q C hE hnm hQe
  have in_RX1 : ∀ w ∈ u_ws RX1 TX1 2, w ∈ wsX1_shake := by decide +kernel
  have f33 : FL wsX1_shake RX1 33 3 "ArrowField$Flight" RX1 TX1 2 0 := ⟨in_RX1, rfl, by decide, by decide +kernel, Or.inl rfl⟩
  have k48 : Cond.constantDouble RX1 48 (4615063718147915776) ∈ wsX1_shake := by decide +kernel
  have k50 : Cond.constantDouble RX1 50 (4661225614328463360) ∈ wsX1_shake := by decide +kernel
  have f39 : FL wsX1_shake RX1 39 3 "ArrowField$Flight" RX1 TX1 2 1 := ⟨in_RX1, rfl, by decide, by decide +kernel, Or.inl rfl⟩
  obtain ⟨r1, r2, r3, r4, -⟩ := shkF_ok (x - x / 8 * 8) y z
  obtain ⟨w1, w2, w3, w4, -⟩ := shkF_ok (x / 8) y z
  obtain ⟨r5, -⟩ := shk_add hh (x - x / 8 * 8) y z
  obtain ⟨w5, -⟩ := shk_add hv (x / 8) y z
  refine aw_aload_n C dX1_shake_0 rfl ?_
  refine aw_dup C rfl dX1_shake_1 ?_
  refine aw_get C f33 h1 rfl dX1_shake_2 ?_
  refine aw_iload_n C dX1_shake_5 rfl ?_
  refine aw_bipush C (v := 8) (by decide) dX1_shake_6 ?_
  refine aw_irem C (by decide) dX1_shake_8 ?_
  refine aw_i2d C dX1_shake_9 ?_
  refine aw_ldc2d C k48 dX1_shake_10 ?_
  refine aw_dsub C r1 dX1_shake_13 ?_
  refine aw_bipush C (v := 9) (by decide) dX1_shake_14 ?_
  refine aw_iload_n C dX1_shake_16 rfl ?_
  refine aw_isub C dX1_shake_17 ?_
  refine aw_i2d C dX1_shake_18 ?_
  refine aw_dmul C r2 dX1_shake_19 ?_
  refine aw_iload_n C dX1_shake_20 rfl ?_
  refine aw_i2d C dX1_shake_21 ?_
  refine aw_dmul C r3 dX1_shake_22 ?_
  refine aw_ldc2d C k50 dX1_shake_23 ?_
  refine aw_ddiv C r4 dX1_shake_26 ?_
  refine aw_dadd C r5 dX1_shake_27 ?_
  refine aw_putE C f33 ftX1 (ty := .double) (by decide +kernel) rfl rfl h1 (Nat.le_of_ble_eq_true rfl) (fs' := [.double (FP.dadd h (FP.ddiv (FP.dmul (FP.dmul (FP.dsub (FP.i2d (x - x / 8 * 8)) 4615063718147915776) (FP.i2d (9 - y))) (FP.i2d z)) 4661225614328463360)), .double v]) rfl dX1_shake_28 ?_
  refine aw_aload_n C dX1_shake_31 rfl ?_
  refine aw_dup C rfl dX1_shake_32 ?_
  refine aw_get C f39 mp_s rfl dX1_shake_33 ?_
  refine aw_iload_n C dX1_shake_36 rfl ?_
  refine aw_bipush C (v := 8) (by decide) dX1_shake_37 ?_
  refine aw_idiv C (by decide) dX1_shake_39 ?_
  refine aw_i2d C dX1_shake_40 ?_
  refine aw_ldc2d C k48 dX1_shake_41 ?_
  refine aw_dsub C w1 dX1_shake_44 ?_
  refine aw_bipush C (v := 9) (by decide) dX1_shake_45 ?_
  refine aw_iload_n C dX1_shake_47 rfl ?_
  refine aw_isub C dX1_shake_48 ?_
  refine aw_i2d C dX1_shake_49 ?_
  refine aw_dmul C w2 dX1_shake_50 ?_
  refine aw_iload_n C dX1_shake_51 rfl ?_
  refine aw_i2d C dX1_shake_52 ?_
  refine aw_dmul C w3 dX1_shake_53 ?_
  refine aw_ldc2d C k50 dX1_shake_54 ?_
  refine aw_ddiv C w4 dX1_shake_57 ?_
  refine aw_dadd C w5 dX1_shake_58 ?_
  refine aw_putE C f39 ftX1 (ty := .double) (by decide +kernel) rfl rfl mp_s (Nat.le_of_ble_eq_true rfl) (fs' := [.double (FP.dadd h (FP.ddiv (FP.dmul (FP.dmul (FP.dsub (FP.i2d (x - x / 8 * 8)) 4615063718147915776) (FP.i2d (9 - y))) (FP.i2d z)) 4661225614328463360)), .double (FP.dadd v (FP.ddiv (FP.dmul (FP.dmul (FP.dsub (FP.i2d (x / 8)) 4615063718147915776) (FP.i2d (9 - y))) (FP.i2d z)) 4661225614328463360))]) rfl dX1_shake_59 ?_
  refine aw_mu mp_mp ?_
  refine aw_vret C hQe ?_ (by omega) (by omega) dX1_shake_62
  exact ⟨rfl, rfl⟩
end LEAF
