/-! ===== ArrowField's constructor ===== -/
abbrev L0F (a o1 o2 o3 o4 : Nat) : Nat → Nat → Nat := fun k _ => if k = 0 then a else if k = 1 then o1 else if k = 2 then o2 else if k = 3 then o3 else o4
theorem mp_none {μ : mu} {a b : Nat} {e : va_E} (h : mp μ a e b = none) : μ b = none ∧ b ≠ a := by
  by_cases q : b = a
  · rw [q, mp_s] at h; cases h
  · rw [mp_n q] at h; exact ⟨h, q⟩
section PLT
variable {g : Nat → ClassId} {a : Nat} {L : Nat → Nat → Nat} {μ0 μ : mu}
theorem PL.start {o1 o2 o3 o4 : Nat} (n12 : o1 ≠ o2) (hK : Kp a μ0 μ) (f1 : μ0 o1 = none) (f2 : μ0 o2 = none) (f3 : μ0 o3 = none) (f4 : μ0 o4 = none) (m0 : μ a = some (eMn c0F o1 o2 o3 o4)) (m1 : μ o1 = some (eQ (g 3) 6 (fun _ => none))) (m2 : μ o2 = some (eQ (g 4) 6 (fun _ => none))) (m3 : μ o3 = some (eMt (fun _ => 0) 0)) (m4 : μ o4 = some (eFl 0 0)) : PL g a (L0F a o1 o2 o3 o4) 0 0 μ0 μ := by
  have d01 : a ≠ o1 := tag_ne m0 m1 rfl
  have d02 : a ≠ o2 := tag_ne m0 m2 rfl
  have d03 : a ≠ o3 := tag_ne m0 m3 rfl
  have d04 : a ≠ o4 := tag_ne m0 m4 rfl
  have d13 : o1 ≠ o3 := tag_ne m1 m3 rfl
  have d14 : o1 ≠ o4 := tag_ne m1 m4 rfl
  have d23 : o2 ≠ o3 := tag_ne m2 m3 rfl
  have d24 : o2 ≠ o4 := tag_ne m2 m4 rfl
  have d34 : o3 ≠ o4 := tag_ne m3 m4 rfl
  have low : ∀ {k i : Nat}, vN 0 0 k i → k < 5 ∧ i = 0 := by
    intro k i h
    unfold vN at h
    omega
  refine ⟨⟨rfl, ?_, hK, ?_⟩, m0, m1, m2, m3, m4, fun i h => absurd h (Nat.not_lt_zero _), fun i h => absurd h (Nat.not_lt_zero _)⟩
  · intro k i k' i' hv hv' he
    obtain ⟨h1, rfl⟩ := low hv
    obtain ⟨h2, rfl⟩ := low hv'
    refine ⟨?_, rfl⟩
    have c1 : k = 0 ∨ k = 1 ∨ k = 2 ∨ k = 3 ∨ k = 4 := by omega
    have c2 : k' = 0 ∨ k' = 1 ∨ k' = 2 ∨ k' = 3 ∨ k' = 4 := by omega
    rcases c1 with rfl | rfl | rfl | rfl | rfl <;> rcases c2 with rfl | rfl | rfl | rfl | rfl <;> first | rfl | exact absurd he d01 | exact absurd he d02 | exact absurd he d03 | exact absurd he d04 | exact absurd he n12 | exact absurd he d13 | exact absurd he d14 | exact absurd he d23 | exact absurd he d24 | exact absurd he d34 | exact absurd he.symm d01 | exact absurd he.symm d02 | exact absurd he.symm d03 | exact absurd he.symm d04 | exact absurd he.symm n12 | exact absurd he.symm d13 | exact absurd he.symm d14 | exact absurd he.symm d23 | exact absurd he.symm d24 | exact absurd he.symm d34
  · intro k i hv hk
    obtain ⟨h1, rfl⟩ := low hv
    have c1 : k = 1 ∨ k = 2 ∨ k = 3 ∨ k = 4 := by omega
    rcases c1 with rfl | rfl | rfl | rfl
    · exact f1
    · exact f2
    · exact f3
    · exact f4
theorem PL.fin (h : PL g a L 6 6 μ0 μ) : L 0 0 = a ∧ RX g L S0 (mp (mp μ (L 1 0) (eQ (g 3) 6 (fun q => some (L 5 q)))) (L 2 0) (eQ (g 4) 6 (fun q => some (L 6 q)))) ∧ Kp a μ0 (mp (mp μ (L 1 0) (eQ (g 3) 6 (fun q => some (L 5 q)))) (L 2 0) (eQ (g 4) 6 (fun q => some (L 6 q)))) ∧ ∀ k i, vC k i → k ≠ 0 → μ0 (L k i) = none := by
  have v1 : vN 6 6 1 0 := Or.inl ⟨by decide, rfl⟩
  have v2 : vN 6 6 2 0 := Or.inl ⟨by decide, rfl⟩
  have n1 := fun {k i} (hv : vN 6 6 k i) (hk : k ≠ 1) => h.ne2 hv v1 hk
  have n2 := fun {k i} (hv : vN 6 6 k i) (hk : k ≠ 2) => h.ne2 hv v2 hk
  have keep : ∀ {k i : Nat} {x : va_E}, vN 6 6 k i → k ≠ 1 → k ≠ 2 → μ (L k i) = some x → mp (mp μ (L 1 0) (eQ (g 3) 6 (fun q => some (L 5 q)))) (L 2 0) (eQ (g 4) 6 (fun q => some (L 6 q))) (L k i) = some x := fun hv hk hk2 hx => mp_k (mp_k hx (n1 hv hk)) (n2 hv hk2)
  have V : ∀ {k i : Nat}, 6 ≤ k → k < 10 → i < 6 → vN 6 6 k i := fun h1 h2 h3 => Or.inr (Or.inr ⟨h1, h2, h3⟩)
  have n12 : L 1 0 ≠ L 2 0 := n2 v1 (by decide)
  obtain ⟨⟨h0, hj, hK, hF⟩, m0, m1, m2, m3, m4, m5, m6⟩ := h
  refine ⟨h0, ⟨0, 0, fun k i k' i' hv hv' he => hj k i k' i' (vN_vC hv) (vN_vC hv') he, keep (Or.inl ⟨by decide, rfl⟩) (by decide) (by decide) (by rw [h0]; exact m0), mp_k mp_s n12, mp_s, keep (Or.inl ⟨by decide, rfl⟩) (by decide) (by decide) m3, keep (Or.inl ⟨by decide, rfl⟩) (by decide) (by decide) m4, fun i hi => keep (Or.inr (Or.inl ⟨rfl, hi⟩)) (by decide) (by decide) (m5 i hi), fun i hi => keep (V (by decide) (by decide) hi) (by decide) (by decide) (m6 i hi).1, fun i hi => keep (V (by decide) (by decide) hi) (by decide) (by decide) (m6 i hi).2.1, fun i hi => keep (V (by decide) (by decide) hi) (by decide) (by decide) (m6 i hi).2.2.1, fun i hi => keep (V (by decide) (by decide) hi) (by decide) (by decide) (m6 i hi).2.2.2⟩, ?_, fun k i hv hk => hF k i (vN_vC hv) hk⟩
  intro b x hb hn
  refine mp_k (mp_k (hK b x hb hn) fun q => ?_) fun q => ?_
  · have := hF 1 0 v1 (by decide)
    rw [← q, hb] at this
    cases this
  · have := hF 2 0 v2 (by decide)
    rw [← q, hb] at this
    cases this
end PLT
section KS
variable {l : Launch} {s0 : State} {D : va_G} {g : Nat → ClassId}
set_option maxRecDepth 100000 in
set_option maxHeartbeats 4000000 in
theorem k_X4_init (B : Base s0) {μ : mu} {a : Nat} (h1 : μ a = some (.inr (6, [.null, .null, .int 0, .int 0, .int 0, .int 0, .int 0, .int 0, .int 0, .int 0, .int 0, .int 0, .null, .int 0, .int 0, .null]))) : Ct l yX4_init wsX4_init (rmOf 3 34 342 100) s0 D (tyL g) [.ref a] μ 34 342 (fun v μ' => v = none ∧ ∃ L, L 0 0 = a ∧ RX g L S0 μ' ∧ Kp a μ μ' ∧ ∀ k i, vC k i → k ≠ 0 → μ (L k i) = none) := by
  refine Ct.of (cc := cX4_init) (own := RX4) (maxL := 2) (ret := none) (by decide) rfl rfl (Nat.le_of_ble_eq_true rfl) ?_
  intro p e s m args below meth c Q C hE hnm hQe
  have in_RX4 : ∀ w ∈ u_ws RX4 TX4 16, w ∈ wsX4_init := by decide +kernel
  have in_RX2 : ∀ w ∈ u_ws RX2 TX2 10, w ∈ wsX4_init := by decide +kernel
  have in_RX1 : ∀ w ∈ u_ws RX1 TX1 2, w ∈ wsX4_init := by decide +kernel
  have in_RX3 : ∀ w ∈ u_ws RX3 TX3 5, w ∈ wsX4_init := by decide +kernel
  have in_RX0 : ∀ w ∈ u_ws RX0 TX0 12, w ∈ wsX4_init := by decide +kernel
  have f11 : FL wsX4_init RX4 11 6 "ArrowField" RX4 TX4 16 0 := ⟨in_RX4, rfl, by decide, by decide +kernel, Or.inl rfl⟩
  have f17 : FL wsX4_init RX4 17 6 "ArrowField" RX4 TX4 16 1 := ⟨in_RX4, rfl, by decide, by decide +kernel, Or.inl rfl⟩
  have f21 : FL wsX4_init RX4 21 6 "ArrowField" RX4 TX4 16 4 := ⟨in_RX4, rfl, by decide, by decide +kernel, Or.inl rfl⟩
  have f25 : FL wsX4_init RX4 25 6 "ArrowField" RX4 TX4 16 6 := ⟨in_RX4, rfl, by decide, by decide +kernel, Or.inl rfl⟩
  have f31 : FL wsX4_init RX4 31 6 "ArrowField" RX4 TX4 16 12 := ⟨in_RX4, rfl, by decide, by decide +kernel, Or.inl rfl⟩
  have f35 : FL wsX4_init RX4 35 6 "ArrowField" RX4 TX4 16 14 := ⟨in_RX4, rfl, by decide, by decide +kernel, Or.inl rfl⟩
  have f41 : FL wsX4_init RX4 41 6 "ArrowField" RX4 TX4 16 15 := ⟨in_RX4, rfl, by decide, by decide +kernel, Or.inl rfl⟩
  refine aw_aload_n C dX4_init_0 rfl ?_
  refine aw_objInit C (index := 1) (by decide +kernel) (by decide +kernel) (by decide +kernel) (by decide) (by decide) dX4_init_1 ?_
  refine aw_aload_n C dX4_init_4 rfl ?_
  refine aw_bipush C (v := 6) (by decide) dX4_init_5 ?_
  refine aw_newq C (t0 := 3) (N := 6) (by decide +kernel) (va_AO.warm hE.1 B.ao1) rfl (by decide) (by decide) (by decide) (by show _ ≤ _; first | decide | (show _ ≤ 34; omega) | (show _ ≤ 342; omega)) (by show _ ≤ _; first | decide | (show _ ≤ 34; omega) | (show _ ≤ 342; omega)) dX4_init_7 (fun o1 zo1 fo1 => ?_)
  refine aw_putFE C f11 ftX4 (ty := .array (.object "ArrowField$Archer")) (by decide +kernel) hnm rfl rfl (mp_k h1 (nn_ne fo1 h1)) (Nat.le_of_ble_eq_true rfl) (fs' := [.ref o1, .null, .int 0, .int 0, .int 0, .int 0, .int 0, .int 0, .int 0, .int 0, .int 0, .int 0, .null, .int 0, .int 0, .null]) rfl dX4_init_10 ?_
  refine aw_aload_n C dX4_init_13 rfl ?_
  refine aw_bipush C (v := 6) (by decide) dX4_init_14 ?_
  refine aw_newq C (t0 := 4) (N := 6) (by decide +kernel) (va_AO.warm hE.1 B.ao2) rfl (by decide) (by decide) (by decide) (by show _ ≤ _; first | decide | (show _ ≤ 34; omega) | (show _ ≤ 342; omega)) (by show _ ≤ _; first | decide | (show _ ≤ 34; omega) | (show _ ≤ 342; omega)) dX4_init_16 (fun o2 zo2 fo2 => ?_)
  refine aw_putFE C f17 ftX4 (ty := .array (.object "ArrowField$Quiver")) (by decide +kernel) hnm rfl rfl (mp_k mp_s (nn_ne fo2 mp_s)) (Nat.le_of_ble_eq_true rfl) (fs' := [.ref o1, .ref o2, .int 0, .int 0, .int 0, .int 0, .int 0, .int 0, .int 0, .int 0, .int 0, .int 0, .null, .int 0, .int 0, .null]) rfl dX4_init_19 ?_
  refine aw_aload_n C dX4_init_22 rfl ?_
  refine aw_bipush C (v := 18) (by decide) dX4_init_23 ?_
  refine aw_putE C f21 ftX4 (ty := .int) (by decide +kernel) rfl rfl mp_s (Nat.le_of_ble_eq_true rfl) (fs' := [.ref o1, .ref o2, .int 0, .int 0, .int 18, .int 0, .int 0, .int 0, .int 0, .int 0, .int 0, .int 0, .null, .int 0, .int 0, .null]) rfl dX4_init_25 ?_
  refine aw_mu mp_mp ?_
  refine aw_aload_n C dX4_init_28 rfl ?_
  refine aw_iconst C (v := 4) (by decide) dX4_init_29 ?_
  refine aw_putE C f25 ftX4 (ty := .int) (by decide +kernel) rfl rfl mp_s (Nat.le_of_ble_eq_true rfl) (fs' := [.ref o1, .ref o2, .int 0, .int 0, .int 18, .int 0, .int 4, .int 0, .int 0, .int 0, .int 0, .int 0, .null, .int 0, .int 0, .null]) rfl dX4_init_30 ?_
  refine aw_mu mp_mp ?_
  refine aw_aload_n C dX4_init_33 rfl ?_
  refine aw_new C (ci := 4) (fs := [.int 0, .int 0, .int 0, .int 0, .int 0, .int 0, .int 0, .int 0, .int 0, .double 0]) in_RX2 tyX2 ntX2.1 (by decide +kernel) (by decide +kernel) (by decide +kernel) rfl ntX2.2 (by show _ ≤ _; first | decide | (show _ ≤ 34; omega) | (show _ ≤ 342; omega)) (by show _ ≤ _; first | decide | (show _ ≤ 34; omega) | (show _ ≤ 342; omega)) dX4_init_34 (fun o3 zo3 fo3 => ?_)
  refine aw_dup C rfl dX4_init_37 ?_
  refine aw_callIN (n := 0) C hE (k_X2_init B mp_s) ggX4_init_X2_init (by decide +kernel) B.mnRX4_30 (by decide +kernel) rfl rfl ⟨rfl, rfl⟩ (by decide +kernel) ⟨by decide, by decide⟩ rfl rfl (Nat.le_of_ble_eq_true rfl) dX4_init_38 ⟨by decide, by decide⟩ (fun v μ' hp => ?_)
  obtain ⟨rfl, hm9⟩ := hp
  replace hm9 := hm9.symm
  subst hm9
  refine aw_st (st' := [.ref o3, .ref a]) rfl ?_
  refine aw_putFE C f31 ftX4 (ty := .object "ArrowField$Match") (by decide +kernel) hnm rfl rfl (mp_k mp_s (nn_ne fo3 mp_s)) (Nat.le_of_ble_eq_true rfl) (fs' := [.ref o1, .ref o2, .int 0, .int 0, .int 18, .int 0, .int 4, .int 0, .int 0, .int 0, .int 0, .int 0, .ref o3, .int 0, .int 0, .null]) rfl dX4_init_41 ?_
  refine aw_aload_n C dX4_init_44 rfl ?_
  refine aw_iconst C (v := (-1)) (by decide) dX4_init_45 ?_
  refine aw_putE C f35 ftX4 (ty := .int) (by decide +kernel) rfl rfl mp_s (Nat.le_of_ble_eq_true rfl) (fs' := [.ref o1, .ref o2, .int 0, .int 0, .int 18, .int 0, .int 4, .int 0, .int 0, .int 0, .int 0, .int 0, .ref o3, .int 0, .int (-1), .null]) rfl dX4_init_46 ?_
  refine aw_mu mp_mp ?_
  refine aw_aload_n C dX4_init_49 rfl ?_
  refine aw_new C (ci := 3) (fs := [.double 0, .double 0]) in_RX1 tyX1 ntX1.1 (by decide +kernel) (by decide +kernel) (by decide +kernel) rfl ntX1.2 (by show _ ≤ _; first | decide | (show _ ≤ 34; omega) | (show _ ≤ 342; omega)) (by show _ ≤ _; first | decide | (show _ ≤ 34; omega) | (show _ ≤ 342; omega)) dX4_init_50 (fun o4 zo4 fo4 => ?_)
  refine aw_dup C rfl dX4_init_53 ?_
  refine aw_callIN (n := 0) C hE (k_X1_init B mp_s) ggX4_init_X1_init (by decide +kernel) B.mnRX4_40 (by decide +kernel) rfl rfl ⟨rfl, rfl⟩ (by decide +kernel) ⟨by decide, by decide⟩ rfl rfl (Nat.le_of_ble_eq_true rfl) dX4_init_54 ⟨by decide, by decide⟩ (fun v μ' hp => ?_)
  obtain ⟨rfl, hm9⟩ := hp
  replace hm9 := hm9.symm
  subst hm9
  refine aw_st (st' := [.ref o4, .ref a]) rfl ?_
  refine aw_putFE C f41 ftX4 (ty := .object "ArrowField$Flight") (by decide +kernel) hnm rfl rfl (mp_k mp_s (nn_ne fo4 mp_s)) (Nat.le_of_ble_eq_true rfl) (fs' := [.ref o1, .ref o2, .int 0, .int 0, .int 18, .int 0, .int 4, .int 0, .int 0, .int 0, .int 0, .int 0, .ref o3, .int 0, .int (-1), .ref o4]) rfl dX4_init_57 ?_
  refine aw_iconst C (v := 0) (by decide) dX4_init_60 ?_
  refine aw_istore_n C dX4_init_61 (by decide) ?_
  refine aw_widen (n := 4 + 0) (k := 24 + 12 * 0) (by omega) (by omega) ?_
  refine aw_lv (lv' := [(0, .ref a), (1, .int 0)]) ⟨rfl, rfl, trivial⟩ ?_
  have loop62 : ∀ (n : Nat) (i : Nat) (xi : Int32) (L : Nat → Nat → Nat) (μ1 : mu), 6 - i = n → xi = nI i → i ≤ 6 → PL g a L i 0 μ μ1 → Aw p l e (rmOf 3 34 342 100) s m args below meth c Q s0.heap.size D 2 μ1 (4 + i) (24 + 12 * i) 62 [(0, .ref a), (1, .int xi)] [] := by
    intro n
    induction n using Nat.strongRecOn with
    | _ n ih =>
      intro i xi L μ1 hn hx hk hP
      refine aw_iload_n C dX4_init_62 rfl ?_
      refine aw_bipush C (v := 6) (by decide) dX4_init_63 ?_
      refine aw_icmp_ge C (tgt := 87) dX4_init_65 (by decide) (fun c_65 => ?_) (fun c_65 => ?_)
      · refine aw_iconst C (v := 0) (by decide) dX4_init_87 ?_
        refine aw_istore_n C dX4_init_88 (by decide) ?_
        have e8 : i = 6 := by have := ge_of (n := 6) hx (by omega) (by omega) c_65; omega
        refine aw_widen (n := 10 + 4 * 0) (k := 96 + 41 * 0) (by omega) (by omega) ?_
        refine aw_lv (lv' := [(0, .ref a), (1, .int 0)]) ⟨rfl, rfl, trivial⟩ ?_
        have loop89 : ∀ (n : Nat) (i : Nat) (xi : Int32) (L : Nat → Nat → Nat) (μ1 : mu), 6 - i = n → xi = nI i → i ≤ 6 → PL g a L 6 i μ μ1 → Aw p l e (rmOf 3 34 342 100) s m args below meth c Q s0.heap.size D 2 μ1 (10 + 4 * i) (96 + 41 * i) 89 [(0, .ref a), (1, .int xi)] [] := by
          intro n
          induction n using Nat.strongRecOn with
          | _ n ih =>
            intro i xi L μ1 hn hx hk hP
            refine aw_iload_n C dX4_init_89 rfl ?_
            refine aw_bipush C (v := 6) (by decide) dX4_init_90 ?_
            refine aw_icmp_ge C (tgt := 114) dX4_init_92 (by decide) (fun c_92 => ?_) (fun c_92 => ?_)
            · have e8 : i = 6 := by have := ge_of (n := 6) hx (by omega) (by omega) c_92; omega
              subst e8
              refine aw_swapQ hP.2.2.1 ?_
              refine aw_swapQ (mp_k hP.2.2.2.1 (hP.ne2 (Or.inl ⟨by decide, rfl⟩) (Or.inl ⟨by decide, rfl⟩) (by decide))) ?_
              refine aw_vret C hQe ?_ (by omega) (by omega) dX4_init_114
              exact ⟨rfl, L, hP.fin⟩
            · have hi : i < 6 := lt_of (n := 6) hx (by omega) (by omega) c_92
              subst hx
              refine aw_aload_n C dX4_init_95 rfl ?_
              refine aw_get C f17 hP.2.1 rfl dX4_init_96 ?_
              refine aw_iload_n C dX4_init_99 rfl ?_
              refine aw_new C (ci := 5) (fs := [.int 0, .int 0, .null, .null, .null]) in_RX3 tyX3 ntX3.1 (by decide +kernel) (by decide +kernel) (by decide +kernel) rfl ntX3.2 (by show _ ≤ _; first | decide | (show _ ≤ 34; omega) | (show _ ≤ 342; omega)) (by show _ ≤ _; first | decide | (show _ ≤ 34; omega) | (show _ ≤ 342; omega)) dX4_init_100 (fun o5 zo5 fo5 => ?_)
              refine aw_dup C rfl dX4_init_103 ?_
              refine aw_callIN (n := 0) C hE (k_X3_init B mp_s) ggX4_init_X3_init (by decide +kernel) B.mnRX4_46 (by decide +kernel) rfl rfl ⟨rfl, rfl⟩ (by decide +kernel) ⟨by decide, by decide⟩ rfl rfl (Nat.le_of_ble_eq_true rfl) dX4_init_104 ⟨by show _ ≤ 34; omega, by show _ ≤ 342; omega⟩ (fun v μ' hp => ?_)
              obtain ⟨rfl, hKq, st9, hh9, vv9, f1, f2, f3, hn9, e1, e2, e3, e4⟩ := hp
              have hKo : Kp o5 μ1 μ' := fun b x hb hn => hKq b x (mp_k hb hn) hn
              have m2q := hKo _ _ hP.2.2.2.1 (nn_ne fo5 hP.2.2.2.1)
              refine aw_st (st' := [.ref o5, .int (nI i), .ref (L 2 0)]) rfl ?_
              refine aw_aastE C (t0 := 4) (ci := 5) rfl (va_Nw.warmC hE.1 B.caQu) rfl m2q e1 rfl ⟨hi, by decide⟩ dX4_init_107 ?_
              refine aw_iinc C dX4_init_108 rfl (by decide) ?_
              refine aw_goto C (tgt := 89) dX4_init_111 (by decide) ?_
              refine aw_widen (n := 10 + 4 * (i + 1)) (k := 96 + 41 * (i + 1)) (by omega) (by omega) ?_
              refine aw_lv (lv' := [(0, .ref a), (1, .int (nI i + Int32.ofInt 1))]) ⟨rfl, rfl, trivial⟩ ?_
              exact ih _ (by omega) (i + 1) (nI i + Int32.ofInt 1) _ _ rfl (nI_inc i) (by omega) (hP.stepQ fo5 (mp_none f1).1 (mp_none f2).1 (mp_none f3).1 hKo e1 e2 e3 e4 hn9)
        exact loop89 _ 0 0 L μ1 rfl rfl (by decide) (e8 ▸ hP)
      · have hi : i < 6 := lt_of (n := 6) hx (by omega) (by omega) c_65
        subst hx
        refine aw_aload_n C dX4_init_68 rfl ?_
        refine aw_get C f11 hP.2.1 rfl dX4_init_69 ?_
        refine aw_iload_n C dX4_init_72 rfl ?_
        refine aw_new C (ci := 2) (fs := [.int 0, .int 0, .int 0, .int 0, .float 0, .int 0, .int 0, .int 0, .int 0, .int 0, .int 0, .int 0]) in_RX0 tyX0 ntX0.1 (by decide +kernel) (by decide +kernel) (by decide +kernel) rfl ntX0.2 (by show _ ≤ _; first | decide | (show _ ≤ 34; omega) | (show _ ≤ 342; omega)) (by show _ ≤ _; first | decide | (show _ ≤ 34; omega) | (show _ ≤ 342; omega)) dX4_init_73 (fun o6 zo6 fo6 => ?_)
        refine aw_dup C rfl dX4_init_76 ?_
        refine aw_callIN (n := 0) C hE (k_X0_init B mp_s) ggX4_init_X0_init (by decide +kernel) B.mnRX4_45 (by decide +kernel) rfl rfl ⟨rfl, rfl⟩ (by decide +kernel) ⟨by decide, by decide⟩ rfl rfl (Nat.le_of_ble_eq_true rfl) dX4_init_77 ⟨by show _ ≤ 34; omega, by show _ ≤ 342; omega⟩ (fun v μ' hp => ?_)
        obtain ⟨rfl, hm9⟩ := hp
        replace hm9 := hm9.symm
        subst hm9
        refine aw_st (st' := [.ref o6, .int (nI i), .ref (L 1 0)]) rfl ?_
        refine aw_mu mp_mp ?_
        refine aw_aastE C (t0 := 3) (ci := 2) rfl (va_Nw.warmC hE.1 B.caAr) rfl (mp_k hP.2.2.1 (nn_ne fo6 hP.2.2.1)) mp_s rfl ⟨hi, by decide⟩ dX4_init_80 ?_
        refine aw_iinc C dX4_init_81 rfl (by decide) ?_
        refine aw_goto C (tgt := 62) dX4_init_84 (by decide) ?_
        refine aw_widen (n := 4 + (i + 1)) (k := 24 + 12 * (i + 1)) (by omega) (by omega) ?_
        refine aw_lv (lv' := [(0, .ref a), (1, .int (nI i + Int32.ofInt 1))]) ⟨rfl, rfl, trivial⟩ ?_
        exact ih _ (by omega) (i + 1) (nI i + Int32.ofInt 1) _ _ rfl (nI_inc i) (by omega) (hP.stepA fo6)
  exact loop62 _ 0 0 (L0F a o1 o2 o3 o4) _ rfl rfl (by decide) (PL.start (nn_ne fo2 (mp_k mp_s (nn_ne fo1 h1).symm)) ((((((((Kp.rf.new fo1).put).new fo2).put).new fo3).put).new fo4).put) (Kp.rf.fr h1 fo1) (((Kp.rf.new fo1).put).fr mp_s fo2) (((((Kp.rf.new fo1).put).new fo2).put).fr mp_s fo3) (((((((Kp.rf.new fo1).put).new fo2).put).new fo3).put).fr mp_s fo4) mp_s (mp_k (mp_k (mp_k (mp_k (mp_k (mp_k (mp_k mp_s (nn_ne fo1 h1).symm) (nn_ne fo2 (mp_k mp_s (nn_ne fo1 h1).symm))) (nn_ne fo1 h1).symm) (nn_ne fo3 (mp_k (mp_k (mp_k mp_s (nn_ne fo1 h1).symm) (nn_ne fo2 (mp_k mp_s (nn_ne fo1 h1).symm))) (nn_ne fo1 h1).symm))) (nn_ne fo1 h1).symm) (nn_ne fo4 (mp_k (mp_k (mp_k (mp_k (mp_k mp_s (nn_ne fo1 h1).symm) (nn_ne fo2 (mp_k mp_s (nn_ne fo1 h1).symm))) (nn_ne fo1 h1).symm) (nn_ne fo3 (mp_k (mp_k (mp_k mp_s (nn_ne fo1 h1).symm) (nn_ne fo2 (mp_k mp_s (nn_ne fo1 h1).symm))) (nn_ne fo1 h1).symm))) (nn_ne fo1 h1).symm))) (nn_ne fo1 h1).symm) (mp_k (mp_k (mp_k (mp_k (mp_k mp_s (nn_ne fo2 mp_s).symm) (nn_ne fo3 (mp_k mp_s (nn_ne fo2 mp_s).symm))) (nn_ne fo2 mp_s).symm) (nn_ne fo4 (mp_k (mp_k (mp_k mp_s (nn_ne fo2 mp_s).symm) (nn_ne fo3 (mp_k mp_s (nn_ne fo2 mp_s).symm))) (nn_ne fo2 mp_s).symm))) (nn_ne fo2 mp_s).symm) (mp_k (mp_k (mp_k mp_s (nn_ne fo3 mp_s).symm) (nn_ne fo4 (mp_k mp_s (nn_ne fo3 mp_s).symm))) (nn_ne fo3 mp_s).symm) (mp_k mp_s (nn_ne fo4 mp_s).symm))
end KS
