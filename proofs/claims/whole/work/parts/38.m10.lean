/-! ===== ArrowFieldModel: a new one ===== -/
def K6F (a o1 o2 o3 o4 o5 : Nat) : Nat → Nat → Nat := fun k _ => if k = 0 then a else if k = 1 then o1 else if k = 2 then o2 else if k = 3 then o3 else if k = 4 then o4 else o5
def X0 : XS := (0, 0, 0, 0, 0, 0, 0, upd (upd (fun _ => 0) 0 (-1)) 1 (-1), fun _ => 0, fun _ => 0)
theorem vM00 {k i : Nat} (h : vM 0 0 k i) : (k = 0 ∨ k = 1 ∨ k = 2 ∨ k = 3 ∨ k = 4 ∨ k = 5) ∧ i = 0 := by
  rcases h with h | h | h | h | h <;> omega
theorem RM.start {g : Nat → ClassId} {e0 a o1 o2 o3 o4 o5 : Nat} {μ : mu} (ha : μ a = some (eMo (mF S0 X0) o1 o2 o3 o4 o5 0 0 0 0)) (h1 : μ o1 = some (eAl 0 e0 0)) (h2 : μ o2 = some (eAl 0 e0 0)) (h3 : μ o3 = some (eI g 2 X0.pa)) (h4 : μ o4 = some (eI g 2 X0.po)) (h5 : μ o5 = some (eI g 2 X0.su)) (d12 : o1 ≠ o2) (d34 : o3 ≠ o4) (d35 : o3 ≠ o5) (d45 : o4 ≠ o5) : RM g (K6F a o1 o2 o3 o4 o5) e0 S0 X0 μ := by
  have t01 : a ≠ o1 := tag_ne ha h1 rfl
  have t02 : a ≠ o2 := tag_ne ha h2 rfl
  have t03 : a ≠ o3 := tag_ne ha h3 rfl
  have t04 : a ≠ o4 := tag_ne ha h4 rfl
  have t05 : a ≠ o5 := tag_ne ha h5 rfl
  have t13 : o1 ≠ o3 := tag_ne h1 h3 rfl
  have t14 : o1 ≠ o4 := tag_ne h1 h4 rfl
  have t15 : o1 ≠ o5 := tag_ne h1 h5 rfl
  have t23 : o2 ≠ o3 := tag_ne h2 h3 rfl
  have t24 : o2 ≠ o4 := tag_ne h2 h4 rfl
  have t25 : o2 ≠ o5 := tag_ne h2 h5 rfl
  refine ⟨?_, ha, h1, h2, h3, h4, h5, fun z => absurd z (Nat.lt_irrefl 0), fun z => absurd z (Nat.lt_irrefl 0), fun i hi => absurd hi (Nat.not_lt_zero i), fun i hi => absurd hi (Nat.not_lt_zero i), fun i hi => absurd hi (Nat.not_lt_zero i), fun i hi => absurd hi (Nat.not_lt_zero i), fun i hi => absurd hi (Nat.not_lt_zero i)⟩
  intro k i k' i' hv hv' e
  obtain ⟨hk, hi⟩ := vM00 hv
  obtain ⟨hk', hi'⟩ := vM00 hv'
  refine ⟨?_, hi.trans hi'.symm⟩
  rcases hk with rfl | rfl | rfl | rfl | rfl | rfl <;> rcases hk' with rfl | rfl | rfl | rfl | rfl | rfl <;> first | rfl | exact absurd e t01 | exact absurd e t02 | exact absurd e t03 | exact absurd e t04 | exact absurd e t05 | exact absurd e d12 | exact absurd e t13 | exact absurd e t14 | exact absurd e t15 | exact absurd e t23 | exact absurd e t24 | exact absurd e t25 | exact absurd e d34 | exact absurd e d35 | exact absurd e d45 | exact absurd e.symm t01 | exact absurd e.symm t02 | exact absurd e.symm t03 | exact absurd e.symm t04 | exact absurd e.symm t05 | exact absurd e.symm d12 | exact absurd e.symm t13 | exact absurd e.symm t14 | exact absurd e.symm t15 | exact absurd e.symm t23 | exact absurd e.symm t24 | exact absurd e.symm t25 | exact absurd e.symm d34 | exact absurd e.symm d35 | exact absurd e.symm d45
theorem MR.start : MR S0 X0 0 := ⟨Nat.le_refl 0, fun _ => rfl, fun q => absurd rfl q⟩
section KM10
variable {l : Launch} {s0 : State} {D : va_G} {g : Nat → ClassId}
set_option maxRecDepth 100000 in
set_option maxHeartbeats 4000000 in
theorem k_X7_init (B : Base s0) {μ : mu} {a e0 : Nat} (bl : BL s0 g e0) (h1 : μ a = some (.inr (9, [.int 0, .null, .null, .int 0, .int 0, .int 0, .int 0, .int 0, .int 0, .int 0, .int 0, .int 0, .int 0, .null, .null, .null, .double 0, .int 0, .int 0, .double 0, .double 0, .long 0]))) : Ct l yX7_init wsX7_init (rmOf 4 5 12 170) s0 D (tyL g) [.ref a] μ 5 12 (fun v9 μ' => v9 = none ∧ ∃ K, K 0 0 = a ∧ RMX g K e0 S0 0 0 μ' ∧ Kp a μ μ' ∧ ∀ k i, vM 0 0 k i → k ≠ 0 → μ (K k i) = none) := by
  refine Ct.of (cc := cX7_init) (own := RX7) (maxL := 1) (ret := none) (by decide) rfl rfl (Nat.le_of_ble_eq_true rfl) ?_
  intro p e s m args below meth c Q C hE hnm hQe
  have in_RJx4a65c : ∀ w ∈ u_ws RJx4a65c TJx4a65c 3, w ∈ wsX7_init := by decide +kernel
  have in_RX7 : ∀ w ∈ u_ws RX7 TX7 22, w ∈ wsX7_init := by decide +kernel
  have f10 : FL wsX7_init RX7 10 9 "ArrowFieldModel" RX7 TX7 22 1 := ⟨in_RX7, rfl, by decide, by decide +kernel, Or.inl rfl⟩
  have f16 : FL wsX7_init RX7 16 9 "ArrowFieldModel" RX7 TX7 22 2 := ⟨in_RX7, rfl, by decide, by decide +kernel, Or.inl rfl⟩
  have f19 : FL wsX7_init RX7 19 9 "ArrowFieldModel" RX7 TX7 22 3 := ⟨in_RX7, rfl, by decide, by decide +kernel, Or.inl rfl⟩
  have f23 : FL wsX7_init RX7 23 9 "ArrowFieldModel" RX7 TX7 22 5 := ⟨in_RX7, rfl, by decide, by decide +kernel, Or.inl rfl⟩
  have f26 : FL wsX7_init RX7 26 9 "ArrowFieldModel" RX7 TX7 22 12 := ⟨in_RX7, rfl, by decide, by decide +kernel, Or.inl rfl⟩
  have f29 : FL wsX7_init RX7 29 9 "ArrowFieldModel" RX7 TX7 22 13 := ⟨in_RX7, rfl, by decide, by decide +kernel, Or.inl rfl⟩
  have f33 : FL wsX7_init RX7 33 9 "ArrowFieldModel" RX7 TX7 22 14 := ⟨in_RX7, rfl, by decide, by decide +kernel, Or.inl rfl⟩
  have f36 : FL wsX7_init RX7 36 9 "ArrowFieldModel" RX7 TX7 22 15 := ⟨in_RX7, rfl, by decide, by decide +kernel, Or.inl rfl⟩
  refine aw_aload_n C dX7_init_0 rfl ?_
  refine aw_objInit C (index := 1) (by decide +kernel) (by decide +kernel) (by decide +kernel) (by decide) (by decide) dX7_init_1 ?_
  refine aw_aload_n C dX7_init_4 rfl ?_
  refine aw_new C (ci := 1) (fs := [.int 0, .null, .int 0]) in_RJx4a65c tyJx4a65c ntJx4a65c.1 (by decide +kernel) (by decide +kernel) (by decide +kernel) rfl ntJx4a65c.2 (by decide) (by decide) dX7_init_5 (fun o1 zo1 fo1 => ?_)
  refine aw_dup C rfl dX7_init_8 ?_
  refine aw_callI (n := 0) C hE (k_Jx4a65c_init_da8c8 B bl mp_s) ggX7_init_Jx4a65c_init_da8c8 (by decide +kernel) (by decide +kernel) (by decide +kernel) rfl rfl ⟨rfl, rfl⟩ (by decide +kernel) ⟨by decide, by decide⟩ rfl rfl (Nat.le_of_ble_eq_true rfl) dX7_init_9 ⟨by decide, by decide⟩ (fun v μ' hp => ?_)
  obtain ⟨rfl, hm9⟩ := hp
  replace hm9 := hm9.symm
  subst hm9
  refine aw_st (st' := [.ref o1, .ref a]) rfl ?_
  refine aw_mu mp_mp ?_
  refine aw_putFE C f10 ftX7 (ty := .object "java/util/ArrayList") (by decide +kernel) hnm rfl rfl (mp_k h1 (nn_ne fo1 h1)) (Nat.le_of_ble_eq_true rfl) (fs' := [.int 0, .ref o1, .null, .int 0, .int 0, .int 0, .int 0, .int 0, .int 0, .int 0, .int 0, .int 0, .int 0, .null, .null, .null, .double 0, .int 0, .int 0, .double 0, .double 0, .long 0]) rfl dX7_init_12 ?_
  refine aw_aload_n C dX7_init_15 rfl ?_
  refine aw_new C (ci := 1) (fs := [.int 0, .null, .int 0]) in_RJx4a65c tyJx4a65c ntJx4a65c.1 (by decide +kernel) (by decide +kernel) (by decide +kernel) rfl ntJx4a65c.2 (by decide) (by decide) dX7_init_16 (fun o2 zo2 fo2 => ?_)
  refine aw_dup C rfl dX7_init_19 ?_
  refine aw_callI (n := 0) C hE (k_Jx4a65c_init_da8c8 B bl mp_s) ggX7_init_Jx4a65c_init_da8c8 (by decide +kernel) (by decide +kernel) (by decide +kernel) rfl rfl ⟨rfl, rfl⟩ (by decide +kernel) ⟨by decide, by decide⟩ rfl rfl (Nat.le_of_ble_eq_true rfl) dX7_init_20 ⟨by decide, by decide⟩ (fun v μ' hp => ?_)
  obtain ⟨rfl, hm9⟩ := hp
  replace hm9 := hm9.symm
  subst hm9
  refine aw_st (st' := [.ref o2, .ref a]) rfl ?_
  refine aw_mu mp_mp ?_
  refine aw_putFE C f16 ftX7 (ty := .object "java/util/ArrayList") (by decide +kernel) hnm rfl rfl (mp_k mp_s (nn_ne fo2 mp_s)) (Nat.le_of_ble_eq_true rfl) (fs' := [.int 0, .ref o1, .ref o2, .int 0, .int 0, .int 0, .int 0, .int 0, .int 0, .int 0, .int 0, .int 0, .int 0, .null, .null, .null, .double 0, .int 0, .int 0, .double 0, .double 0, .long 0]) rfl dX7_init_23 ?_
  refine aw_aload_n C dX7_init_26 rfl ?_
  refine aw_bipush C (v := 18) (by decide) dX7_init_27 ?_
  refine aw_putE C f19 ftX7 (ty := .int) (by decide +kernel) rfl rfl mp_s (Nat.le_of_ble_eq_true rfl) (fs' := [.int 0, .ref o1, .ref o2, .int 18, .int 0, .int 0, .int 0, .int 0, .int 0, .int 0, .int 0, .int 0, .int 0, .null, .null, .null, .double 0, .int 0, .int 0, .double 0, .double 0, .long 0]) rfl dX7_init_29 ?_
  refine aw_mu mp_mp ?_
  refine aw_aload_n C dX7_init_32 rfl ?_
  refine aw_iconst C (v := 4) (by decide) dX7_init_33 ?_
  refine aw_putE C f23 ftX7 (ty := .int) (by decide +kernel) rfl rfl mp_s (Nat.le_of_ble_eq_true rfl) (fs' := [.int 0, .ref o1, .ref o2, .int 18, .int 0, .int 4, .int 0, .int 0, .int 0, .int 0, .int 0, .int 0, .int 0, .null, .null, .null, .double 0, .int 0, .int 0, .double 0, .double 0, .long 0]) rfl dX7_init_34 ?_
  refine aw_mu mp_mp ?_
  refine aw_aload_n C dX7_init_37 rfl ?_
  refine aw_iconst C (v := (-1)) (by decide) dX7_init_38 ?_
  refine aw_putE C f26 ftX7 (ty := .int) (by decide +kernel) rfl rfl mp_s (Nat.le_of_ble_eq_true rfl) (fs' := [.int 0, .ref o1, .ref o2, .int 18, .int 0, .int 4, .int 0, .int 0, .int 0, .int 0, .int 0, .int 0, .int (-1), .null, .null, .null, .double 0, .int 0, .int 0, .double 0, .double 0, .long 0]) rfl dX7_init_39 ?_
  refine aw_mu mp_mp ?_
  refine aw_aload_n C dX7_init_42 rfl ?_
  refine aw_iconst C (v := 2) (by decide) dX7_init_43 ?_
  refine aw_newI C (N := 2) (by decide +kernel) (by decide) (by decide) (by decide) (by decide) (by decide) dX7_init_44 (fun o3 zo3 fo3 => ?_)
  refine aw_dup C rfl dX7_init_46 ?_
  refine aw_iconst C (v := 0) (by decide) dX7_init_47 ?_
  refine aw_iconst C (v := (-1)) (by decide) dX7_init_48 ?_
  refine aw_iastE C mp_s (by decide : (0 : Int32) = nI 0) ⟨by decide, by decide⟩ dX7_init_49 ?_
  refine aw_mu mp_mp ?_
  refine aw_dup C rfl dX7_init_50 ?_
  refine aw_iconst C (v := 1) (by decide) dX7_init_51 ?_
  refine aw_iconst C (v := (-1)) (by decide) dX7_init_52 ?_
  refine aw_iastE C mp_s (by decide : (1 : Int32) = nI 1) ⟨by decide, by decide⟩ dX7_init_53 ?_
  refine aw_mu mp_mp ?_
  refine aw_putFE C f29 ftX7 (ty := .array .int) (by decide +kernel) hnm rfl rfl (mp_k mp_s (nn_ne fo3 mp_s)) (Nat.le_of_ble_eq_true rfl) (fs' := [.int 0, .ref o1, .ref o2, .int 18, .int 0, .int 4, .int 0, .int 0, .int 0, .int 0, .int 0, .int 0, .int (-1), .ref o3, .null, .null, .double 0, .int 0, .int 0, .double 0, .double 0, .long 0]) rfl dX7_init_54 ?_
  refine aw_aload_n C dX7_init_57 rfl ?_
  refine aw_iconst C (v := 2) (by decide) dX7_init_58 ?_
  refine aw_newI C (N := 2) (by decide +kernel) (by decide) (by decide) (by decide) (by decide) (by decide) dX7_init_59 (fun o4 zo4 fo4 => ?_)
  refine aw_putFE C f33 ftX7 (ty := .array .int) (by decide +kernel) hnm rfl rfl (mp_k mp_s (nn_ne fo4 mp_s)) (Nat.le_of_ble_eq_true rfl) (fs' := [.int 0, .ref o1, .ref o2, .int 18, .int 0, .int 4, .int 0, .int 0, .int 0, .int 0, .int 0, .int 0, .int (-1), .ref o3, .ref o4, .null, .double 0, .int 0, .int 0, .double 0, .double 0, .long 0]) rfl dX7_init_61 ?_
  refine aw_aload_n C dX7_init_64 rfl ?_
  refine aw_iconst C (v := 2) (by decide) dX7_init_65 ?_
  refine aw_newI C (N := 2) (by decide +kernel) (by decide) (by decide) (by decide) (by decide) (by decide) dX7_init_66 (fun o5 zo5 fo5 => ?_)
  refine aw_putFE C f36 ftX7 (ty := .array .int) (by decide +kernel) hnm rfl rfl (mp_k mp_s (nn_ne fo5 mp_s)) (Nat.le_of_ble_eq_true rfl) (fs' := [.int 0, .ref o1, .ref o2, .int 18, .int 0, .int 4, .int 0, .int 0, .int 0, .int 0, .int 0, .int 0, .int (-1), .ref o3, .ref o4, .ref o5, .double 0, .int 0, .int 0, .double 0, .double 0, .long 0]) rfl dX7_init_68 ?_
  refine aw_vret C hQe ?_ (by omega) (by omega) dX7_init_71
  refine ⟨rfl, K6F a o1 o2 o3 o4 o5, rfl, ⟨X0, RM.start mp_s (mp_k (mp_k (mp_k (mp_k (mp_k (mp_k (mp_k (mp_k (mp_k mp_s (nn_ne fo1 h1).symm) (nn_ne fo2 (mp_k mp_s (nn_ne fo1 h1).symm))) (nn_ne fo1 h1).symm) (nn_ne fo3 (mp_k (mp_k (mp_k mp_s (nn_ne fo1 h1).symm) (nn_ne fo2 (mp_k mp_s (nn_ne fo1 h1).symm))) (nn_ne fo1 h1).symm))) (nn_ne fo1 h1).symm) (nn_ne fo4 (mp_k (mp_k (mp_k (mp_k (mp_k mp_s (nn_ne fo1 h1).symm) (nn_ne fo2 (mp_k mp_s (nn_ne fo1 h1).symm))) (nn_ne fo1 h1).symm) (nn_ne fo3 (mp_k (mp_k (mp_k mp_s (nn_ne fo1 h1).symm) (nn_ne fo2 (mp_k mp_s (nn_ne fo1 h1).symm))) (nn_ne fo1 h1).symm))) (nn_ne fo1 h1).symm))) (nn_ne fo1 h1).symm) (nn_ne fo5 (mp_k (mp_k (mp_k (mp_k (mp_k (mp_k (mp_k mp_s (nn_ne fo1 h1).symm) (nn_ne fo2 (mp_k mp_s (nn_ne fo1 h1).symm))) (nn_ne fo1 h1).symm) (nn_ne fo3 (mp_k (mp_k (mp_k mp_s (nn_ne fo1 h1).symm) (nn_ne fo2 (mp_k mp_s (nn_ne fo1 h1).symm))) (nn_ne fo1 h1).symm))) (nn_ne fo1 h1).symm) (nn_ne fo4 (mp_k (mp_k (mp_k (mp_k (mp_k mp_s (nn_ne fo1 h1).symm) (nn_ne fo2 (mp_k mp_s (nn_ne fo1 h1).symm))) (nn_ne fo1 h1).symm) (nn_ne fo3 (mp_k (mp_k (mp_k mp_s (nn_ne fo1 h1).symm) (nn_ne fo2 (mp_k mp_s (nn_ne fo1 h1).symm))) (nn_ne fo1 h1).symm))) (nn_ne fo1 h1).symm))) (nn_ne fo1 h1).symm))) (nn_ne fo1 h1).symm) (mp_k (mp_k (mp_k (mp_k (mp_k (mp_k (mp_k mp_s (nn_ne fo2 mp_s).symm) (nn_ne fo3 (mp_k mp_s (nn_ne fo2 mp_s).symm))) (nn_ne fo2 mp_s).symm) (nn_ne fo4 (mp_k (mp_k (mp_k mp_s (nn_ne fo2 mp_s).symm) (nn_ne fo3 (mp_k mp_s (nn_ne fo2 mp_s).symm))) (nn_ne fo2 mp_s).symm))) (nn_ne fo2 mp_s).symm) (nn_ne fo5 (mp_k (mp_k (mp_k (mp_k (mp_k mp_s (nn_ne fo2 mp_s).symm) (nn_ne fo3 (mp_k mp_s (nn_ne fo2 mp_s).symm))) (nn_ne fo2 mp_s).symm) (nn_ne fo4 (mp_k (mp_k (mp_k mp_s (nn_ne fo2 mp_s).symm) (nn_ne fo3 (mp_k mp_s (nn_ne fo2 mp_s).symm))) (nn_ne fo2 mp_s).symm))) (nn_ne fo2 mp_s).symm))) (nn_ne fo2 mp_s).symm) (mp_k (mp_k (mp_k (mp_k (mp_k mp_s (nn_ne fo3 mp_s).symm) (nn_ne fo4 (mp_k mp_s (nn_ne fo3 mp_s).symm))) (nn_ne fo3 mp_s).symm) (nn_ne fo5 (mp_k (mp_k (mp_k mp_s (nn_ne fo3 mp_s).symm) (nn_ne fo4 (mp_k mp_s (nn_ne fo3 mp_s).symm))) (nn_ne fo3 mp_s).symm))) (nn_ne fo3 mp_s).symm) (mp_k (mp_k (mp_k mp_s (nn_ne fo4 mp_s).symm) (nn_ne fo5 (mp_k mp_s (nn_ne fo4 mp_s).symm))) (nn_ne fo4 mp_s).symm) (mp_k mp_s (nn_ne fo5 mp_s).symm) (nn_ne fo2 (mp_k mp_s (nn_ne fo1 h1).symm)) (nn_ne fo4 (mp_k mp_s (nn_ne fo3 mp_s).symm)) (nn_ne fo5 (mp_k (mp_k (mp_k mp_s (nn_ne fo3 mp_s).symm) (nn_ne fo4 (mp_k mp_s (nn_ne fo3 mp_s).symm))) (nn_ne fo3 mp_s).symm)) (nn_ne fo5 (mp_k mp_s (nn_ne fo4 mp_s).symm)), MR.start, rfl⟩, ((((((((((Kp.rf.new fo1).put).new fo2).put).new fo3).put).new fo4).put).new fo5).put), fun k i hv hk => ?_⟩
  rcases (vM00 hv).1 with rfl | rfl | rfl | rfl | rfl | rfl
  · exact absurd rfl hk
  · exact (Kp.rf.fr h1 fo1)
  · exact (((Kp.rf.new fo1).put).fr mp_s fo2)
  · exact (((((Kp.rf.new fo1).put).new fo2).put).fr mp_s fo3)
  · exact (((((((Kp.rf.new fo1).put).new fo2).put).new fo3).put).fr mp_s fo4)
  · exact (((((((((Kp.rf.new fo1).put).new fo2).put).new fo3).put).new fo4).put).fr mp_s fo5)
end KM10
