/-! ===== ArrowField: pull, digest ===== -/
theorem puQ_0 (S : SS) : puQ S 0 = S := by
  have h : (fun j => if j < 0 then bbF (bbF (S.F j) 1 12) 2 12 else S.F j) = S.F := by
    funext j
    exact if_neg (Nat.not_lt_zero _)
  unfold puQ
  rw [h]
theorem puQ_F {S : SS} {i j : Nat} (h : i ≤ j) : (puQ S i).F j = S.F j := if_neg (by omega)
theorem puQ_s (S : SS) (i : Nat) : puQ S (i + 1) = (puQ S i).wF (fu (puQ S i).F i (bbF (bbF ((puQ S i).F i) 1 12) 2 12)) := by
  have h : (fun j => if j < i + 1 then bbF (bbF (S.F j) 1 12) 2 12 else S.F j) = fu (puQ S i).F i (bbF (bbF ((puQ S i).F i) 1 12) 2 12) := by
    funext j
    by_cases e : j = i
    · subst e
      rw [fu_s, puQ_F (Nat.le_refl _), if_pos (Nat.lt_succ_self _)]
    · rw [fu_n e]
      show _ = if j < i then _ else _
      by_cases h1 : j < i
      · rw [if_pos h1, if_pos (by omega)]
      · rw [if_neg h1, if_neg (by omega)]
  show S.wF _ = S.wF _
  rw [h]
theorem puA_0 (S : SS) : puA S 0 = S := by
  have h : (fun j => if j < 0 then fgtA (S.A j) else S.A j) = S.A := by
    funext j
    exact if_neg (Nat.not_lt_zero _)
  unfold puA
  rw [h]
theorem puA_A {S : SS} {i j : Nat} (h : i ≤ j) : (puA S i).A j = S.A j := if_neg (by omega)
theorem puA_s (S : SS) (i : Nat) : puA S (i + 1) = (puA S i).wA (fu (puA S i).A i (fgtA ((puA S i).A i))) := by
  have h : (fun j => if j < i + 1 then fgtA (S.A j) else S.A j) = fu (puA S i).A i (fgtA ((puA S i).A i)) := by
    funext j
    by_cases e : j = i
    · subst e
      rw [fu_s, puA_A (Nat.le_refl _), if_pos (Nat.lt_succ_self _)]
    · rw [fu_n e]
      show _ = if j < i then _ else _
      by_cases h1 : j < i
      · rw [if_pos h1, if_pos (by omega)]
      · rw [if_neg h1, if_neg (by omega)]
  show S.wA _ = S.wA _
  rw [h]
theorem btw_nI {i n : Nat} {hi : Int32} (h : i ≤ n) (hn : n < 2 ^ 31) (hh : hi = nI n) : btw (nI i) 0 hi = true := by
  subst hh
  exact decide_eq_true ⟨nI_pos' (by omega), nI_le h hn⟩
theorem dgL_0 {f : Int64 → Nat → Int64} {d : Int64} : dgL f d 0 = d := rfl
theorem dgL_s {f : Int64 → Nat → Int64} {d : Int64} {n : Nat} : dgL f d (n + 1) = f (dgL f d n) n := rfl
theorem dgA_0 {f : Nat → Int64} {d : Int64} : dgA d f 0 = d := rfl
theorem dgA_s {f : Nat → Int64} {d : Int64} {n : Nat} : dgA d f (n + 1) = dgA d f n * 31 + f n := rfl
theorem dgH_0 {S : SS} {j : Nat} {d : Int64} : dgH S j d 0 = d := rfl
theorem dgH_s {S : SS} {j n : Nat} {d : Int64} : dgH S j d (n + 1) = (dgH S j d n * 31 + FP.d2l (FP.dmul d4096 (S.H j n))) * 31 + FP.d2l (FP.dmul d4096 (S.V j n)) := rfl
theorem mnC_0 {i : Nat} (h : i < 12) : mnC (nI i) = 0 := if_pos (btw_nI (n := 11) (by omega) (by decide) rfl)
theorem omC_0 {i : Nat} (h : i < 8) : omC (nI i) = 0 := if_pos (btw_nI (n := 7) (by omega) (by decide) rfl)
theorem oaC_0 {S : SS} {j i : Nat} (hj : j < S.nA) (hA : S.nA ≤ 6) (h : i < 11) : oaC S (nI j) (nI i) = 0 := by
  unfold oaC
  rw [if_pos (inb_nI hj (by omega)), if_pos (btw_nI (n := 10) (hi := 10) (by omega) (by decide) rfl)]
theorem oqC_0 {S : SS} {j i : Nat} (hj : j < S.nQ) (hQ : S.nQ ≤ 6) (h : i < 7) : oqC S (nI j) (nI i) = 0 := by
  unfold oqC
  rw [if_pos (inb_nI hj (by omega)), if_pos (btw_nI (n := 6) (hi := 6) (by omega) (by decide) rfl)]
theorem stC_0 {S : SS} {j : Nat} (hj : j < S.nA) (hA : S.nA ≤ 6) : stC S (nI j) = 0 := if_pos (inb_nI hj (by omega))
theorem hiC_0 {S : SS} {j i : Nat} (hj : j < S.nQ) (hQ : S.nQ ≤ 6) (h : i < 12) : hiC S (nI j) (nI i) = 0 := by
  unfold hiC
  rw [if_pos (by rw [inb_nI hj (by omega), inb_nI h (by decide)]; rfl)]
theorem sd_ok {S : SS} (hI : Iv S) {j : Nat} (hj : j < S.nA) : Eb 1080 (sdF S j) := by
  unfold sdF
  split
  · unfold Eb; decide +kernel
  · next h =>
    obtain ⟨n, hn, hq⟩ := (hI.2.2.2.1 j hj).2.2.resolve_left h
    rw [hq, ix_nI (n := 6) (by have := hI.Q6; omega) (by decide)]
    exact (spd_ok (hI.2.2.2.1 j hj).1 (hI.2.2.2.2.2.1 n hn) (hI.2.2.2.1 j hj).2.1).2.2.2.2.2.2.1
theorem sd4_ok {S : SS} (hI : Iv S) {j : Nat} (hj : j < S.nA) : vf_n64 (FP.dmul d1024 (sdF S j)) :=
  (Eb.mul (K := 1036) (L := 1080) (by unfold Eb; decide +kernel) (sd_ok hI hj) (by decide) (by decide)).n (by decide)
theorem h4_ok {S : SS} (hI : Iv S) (j k : Nat) : vf_n64 (FP.dmul d4096 (S.H j k)) ∧ vf_n64 (FP.dmul d4096 (S.V j k)) :=
  ⟨(Eb.mul (K := 1036) (L := 1412) (by unfold Eb; decide +kernel) (hI.2.2.2.2.2.2.2.1 j k).1 (by decide) (by decide)).n (by decide), (Eb.mul (K := 1036) (L := 1412) (by unfold Eb; decide +kernel) (hI.2.2.2.2.2.2.2.1 j k).2.1 (by decide) (by decide)).n (by decide)⟩
section KQ
variable {l : Launch} {s0 : State} {D : va_G} {g : Nat → ClassId}
set_option maxRecDepth 100000 in
set_option maxHeartbeats 4000000 in
theorem k_X4_pull (hl9 : l.stackTraces = false) (B : Base s0) {μ : mu} {L : Nat → Nat → Nat} {S : SS} (h0 : RX g L S μ) (hI : Iv S)  : Cy l yX4_pull wsX4_pull (rmOf 2 0 0 100) s0 D (tyL g) [.ref (L 0 0)] μ 0 0 (fun v μ' => (0 : Nat) = 0 ∧ v = some (.int (skF S)) ∧ RX g L (puS S) μ' ∧ FrC L μ μ') (fun E μ' => px9 [] (0 : Nat) E ∧ RX g L S μ' ∧ FrC L μ μ') := by
  refine Cy.of (cc := cX4_pull) (own := RX4) (maxL := 3) (ret := (some .int)) (by decide) rfl rfl (Nat.le_of_ble_eq_true rfl) ?_
  intro p e s m args below meth c Q C hE hnt hQ hQe
  obtain ⟨fh, fv, hR⟩ := h0
  have in_RX4 : ∀ w ∈ u_ws RX4 TX4 16, w ∈ wsX4_pull := by decide +kernel
  have f67 : FL wsX4_pull RX4 67 6 "ArrowField" RX4 TX4 16 3 := ⟨in_RX4, rfl, by decide, by decide +kernel, Or.inl rfl⟩
  have f51 : FL wsX4_pull RX4 51 6 "ArrowField" RX4 TX4 16 2 := ⟨in_RX4, rfl, by decide, by decide +kernel, Or.inl rfl⟩
  have f11 : FL wsX4_pull RX4 11 6 "ArrowField" RX4 TX4 16 0 := ⟨in_RX4, rfl, by decide, by decide +kernel, Or.inl rfl⟩
  have f17 : FL wsX4_pull RX4 17 6 "ArrowField" RX4 TX4 16 1 := ⟨in_RX4, rfl, by decide, by decide +kernel, Or.inl rfl⟩
  have hQ6 := hI.Q6
  have hA6 := hI.A6
  refine aw_aload_n C dX4_pull_0 rfl ?_
  refine aw_callV (n := 0) C hE (ci := 6) (q := (RX4, TX4, 16)) (k_X4_stuckArrows B ⟨_, _, hR⟩ hI) gX4_pull_X4_stuckArrows rfl ⟨rfl, rfl⟩ (by decide +kernel) ⟨by decide, by decide⟩ rfl rfl hR.mn rfl (Nat.le_of_ble_eq_true rfl) dX4_pull_1 ⟨by decide, by decide⟩ (fun v μ' hp => ?_)
  obtain ⟨rfl, hm9⟩ := hp
  replace hm9 := hm9.symm
  subst hm9
  refine aw_st (st' := [.int (skF S)]) rfl ?_
  refine aw_istore_n C dX4_pull_4 (by decide) ?_
  refine aw_iconst C (v := 0) (by decide) dX4_pull_5 ?_
  refine aw_istore_n C dX4_pull_6 (by decide) ?_
  refine aw_lv (lv' := [(0, .ref (L 0 0)), (1, .int (skF S)), (2, .int 0)]) ⟨rfl, rfl, rfl, trivial⟩ ?_
  have loop7 : ∀ (n : Nat) (i : Nat) (xi : Int32) (μ1 : mu), S.nQ - i = n → xi = nI i → i ≤ S.nQ → RC g L (puQ S i) fh fv μ1 → FrC L μ μ1 → Aw p l e (rmOf 2 0 0 100) s m args below meth c Q s0.heap.size D 3 μ1 0 0 7 [(0, .ref (L 0 0)), (1, .int (skF S)), (2, .int xi)] [] := by
    intro n
    induction n using Nat.strongRecOn with
    | _ n ih =>
      intro i xi μ1 hn hx hk hRl hFl
      refine aw_iload_n C dX4_pull_7 rfl ?_
      refine aw_aload_n C dX4_pull_8 rfl ?_
      refine aw_get C f67 hRl.mn rfl dX4_pull_9 ?_
      refine aw_icmp_ge C (tgt := 43) dX4_pull_12 (by decide) (fun c_12 => ?_) (fun c_12 => ?_)
      · refine aw_iconst C (v := 0) (by decide) dX4_pull_43 ?_
        refine aw_istore_n C dX4_pull_44 (by decide) ?_
        have e8 : i = S.nQ := by have := ge_of (n := S.nQ) hx (by omega) (by omega) (by rw [show (puQ S i).c 3 = nI S.nQ from hI.1.2.2.1] at c_12; exact c_12); omega
        refine aw_lv (lv' := [(0, .ref (L 0 0)), (1, .int (skF S)), (2, .int 0)]) ⟨rfl, rfl, rfl, trivial⟩ ?_
        have loop45 : ∀ (n : Nat) (i : Nat) (xi : Int32) (μ1 : mu), S.nA - i = n → xi = nI i → i ≤ S.nA → RC g L (puA (puQ S S.nQ) i) fh fv μ1 → FrC L μ μ1 → Aw p l e (rmOf 2 0 0 100) s m args below meth c Q s0.heap.size D 3 μ1 0 0 45 [(0, .ref (L 0 0)), (1, .int (skF S)), (2, .int xi)] [] := by
          intro n
          induction n using Nat.strongRecOn with
          | _ n ih =>
            intro i xi μ1 hn hx hk hRl hFl
            refine aw_iload_n C dX4_pull_45 rfl ?_
            refine aw_aload_n C dX4_pull_46 rfl ?_
            refine aw_get C f51 hRl.mn rfl dX4_pull_47 ?_
            refine aw_icmp_ge C (tgt := 68) dX4_pull_50 (by decide) (fun c_50 => ?_) (fun c_50 => ?_)
            · refine aw_iload_n C dX4_pull_68 rfl ?_
              refine aw_iret C hQe ?_ (by omega) (by omega) dX4_pull_69
              have e9 : i = S.nA := by have := ge_of (n := S.nA) hx (by omega) (by omega) (by rw [show (puA (puQ S S.nQ) i).c 2 = nI S.nA from hI.1.1] at c_50; exact c_50); omega
              exact ⟨rfl, rfl, ⟨_, _, by unfold puS; rw [← e9]; exact hRl⟩, hFl⟩
            · have hi : i < S.nA := lt_of (n := S.nA) hx (by omega) (by omega) (by rw [show (puA (puQ S S.nQ) i).c 2 = nI S.nA from hI.1.1] at c_50; exact c_50)
              have hi6 : i < 6 := Nat.lt_of_lt_of_le hi hI.A6
              subst hx
              refine aw_aload_n C dX4_pull_53 rfl ?_
              refine aw_get C f11 hRl.mn rfl dX4_pull_54 ?_
              refine aw_iload_n C dX4_pull_57 rfl ?_
              refine aw_aaldE C (t0 := 3) rfl hRl.aA rfl ⟨hi6, by decide⟩ rfl dX4_pull_58 ?_
              refine aw_callV (n := 0) C hE (ci := 2) (q := (RX0, TX0, 12)) (k_X0_forgetEnd (A := (puA (puQ S S.nQ) i).A i) (cr := (puA (puQ S S.nQ) i).cr i) B (hRl.ar hi6)) gX4_pull_X0_forgetEnd rfl ⟨rfl, rfl⟩ (by decide +kernel) ⟨by decide, by decide⟩ rfl rfl (hRl.ar hi6) rfl (Nat.le_of_ble_eq_true rfl) dX4_pull_59 ⟨by decide, by decide⟩ (fun v μ' hp => ?_)
              obtain ⟨rfl, hm9⟩ := hp
              replace hm9 := hm9.symm
              subst hm9
              refine aw_st (st' := []) rfl ?_
              refine aw_iinc C dX4_pull_62 rfl (by decide) ?_
              refine aw_goto C (tgt := 45) dX4_pull_65 (by decide) ?_
              refine aw_lv (lv' := [(0, .ref (L 0 0)), (1, .int (skF S)), (2, .int (nI i + Int32.ofInt 1))]) ⟨rfl, rfl, rfl, trivial⟩ ?_
              exact ih _ (by omega) (i + 1) (nI i + Int32.ofInt 1) _ rfl (nI_inc i) (by omega) (by rw [puA_s]; exact hRl.setA hi6 _) (hFl.mp (v5 (by decide) hi6))
        exact loop45 _ 0 0 μ1 rfl rfl (Nat.zero_le _) (by rw [puA_0, ← e8]; exact hRl) hFl
      · have hi : i < S.nQ := lt_of (n := S.nQ) hx (by omega) (by omega) (by rw [show (puQ S i).c 3 = nI S.nQ from hI.1.2.2.1] at c_12; exact c_12)
        have hi6 : i < 6 := Nat.lt_of_lt_of_le hi hI.Q6
        subst hx
        refine aw_aload_n C dX4_pull_15 rfl ?_
        refine aw_get C f17 hRl.mn rfl dX4_pull_16 ?_
        refine aw_iload_n C dX4_pull_19 rfl ?_
        refine aw_aaldE C (t0 := 4) rfl hRl.aQ rfl ⟨hi6, by decide⟩ rfl dX4_pull_20 ?_
        refine aw_iconst C (v := 1) (by decide) dX4_pull_21 ?_
        refine aw_callV (n := 1) C hE (ci := 5) (q := (RX3, TX3, 5)) (k_X3_bringBack (f := (puQ S i).F i) (x := 1) B (hRl.qu hi6) (hRl.st hi6) (hRl.li.ne (v5 (by decide) hi6) (v5 (by decide) hi6) (Or.inl (by decide)))) gX4_pull_X3_bringBack rfl ⟨rfl, rfl⟩ (by decide +kernel) ⟨by decide, by decide⟩ rfl rfl (hRl.qu hi6) rfl (Nat.le_of_ble_eq_true rfl) dX4_pull_22 ⟨by decide, by decide⟩ (fun v μ' hp => ?_)
        obtain ⟨rfl, hm9⟩ := hp
        replace hm9 := hm9.symm
        subst hm9
        refine aw_st (st' := [.int (nI (bbN ((puQ S i).F i) 1 12))]) rfl ?_
        refine aw_pop C rfl dX4_pull_25 ?_
        refine aw_aload_n C dX4_pull_26 rfl ?_
        refine aw_get C f17 (mp_k hRl.mn (hRl.li.ne (v0 (by decide)) (v5 (by decide) hi6) (Or.inl (by decide)))) rfl dX4_pull_27 ?_
        refine aw_iload_n C dX4_pull_30 rfl ?_
        refine aw_aaldE C (t0 := 4) rfl (mp_k hRl.aQ (hRl.li.ne (v0 (by decide)) (v5 (by decide) hi6) (Or.inl (by decide)))) rfl ⟨hi6, by decide⟩ rfl dX4_pull_31 ?_
        refine aw_iconst C (v := 2) (by decide) dX4_pull_32 ?_
        refine aw_callV (n := 1) C hE (ci := 5) (q := (RX3, TX3, 5)) (k_X3_bringBack (f := bbF ((puQ S i).F i) 1 12) (x := 2) B (mp_k (hRl.qu hi6) (hRl.li.ne (v5 (by decide) hi6) (v5 (by decide) hi6) (Or.inl (by decide)))) mp_s (hRl.li.ne (v5 (by decide) hi6) (v5 (by decide) hi6) (Or.inl (by decide)))) gX4_pull_X3_bringBack rfl ⟨rfl, rfl⟩ (by decide +kernel) ⟨by decide, by decide⟩ rfl rfl (mp_k (hRl.qu hi6) (hRl.li.ne (v5 (by decide) hi6) (v5 (by decide) hi6) (Or.inl (by decide)))) rfl (Nat.le_of_ble_eq_true rfl) dX4_pull_33 ⟨by decide, by decide⟩ (fun v μ' hp => ?_)
        obtain ⟨rfl, hm9⟩ := hp
        replace hm9 := hm9.symm
        subst hm9
        refine aw_st (st' := [.int (nI (bbN (bbF ((puQ S i).F i) 1 12) 2 12))]) rfl ?_
        refine aw_mu mp_mp ?_
        refine aw_pop C rfl dX4_pull_36 ?_
        refine aw_iinc C dX4_pull_37 rfl (by decide) ?_
        refine aw_goto C (tgt := 7) dX4_pull_40 (by decide) ?_
        refine aw_lv (lv' := [(0, .ref (L 0 0)), (1, .int (skF S)), (2, .int (nI i + Int32.ofInt 1))]) ⟨rfl, rfl, rfl, trivial⟩ ?_
        exact ih _ (by omega) (i + 1) (nI i + Int32.ofInt 1) _ rfl (nI_inc i) (by omega) (by rw [puQ_s]; exact hRl.setSt hi6 _) (hFl.mp (v5 (by decide) hi6))
  exact loop7 _ 0 0 μ rfl rfl (Nat.zero_le _) (by rw [puQ_0]; exact hR) FrC.rf
set_option maxRecDepth 100000 in
set_option maxHeartbeats 4000000 in
theorem k_X4_withArcher (hl9 : l.stackTraces = false) (B : Base s0) {μ : mu} {L : Nat → Nat → Nat} {S : SS} (h0 : RX g L S μ) (hI : Iv S) {d0 : Int64} {j : Nat} (hj : j < S.nA) : Cy l yX4_withArcher wsX4_withArcher (rmOf 10 24 144 180) s0 D (tyL g) [.ref (L 0 0), .long d0, .int (nI j)] μ 24 144 (fun v μ' => (0 : Nat) = 0 ∧ v = some (.long (dgR S d0 j)) ∧ RX g L S μ' ∧ FrC L μ μ') (fun E μ' => px9 [] (0 : Nat) E ∧ RX g L S μ' ∧ FrC L μ μ') := by
  refine Cy.of (cc := cX4_withArcher) (own := RX4) (maxL := 7) (ret := (some .long)) (by decide) rfl rfl (Nat.le_of_ble_eq_true rfl) ?_
  intro p e s m args below meth c Q C hE hnt hQ hQe
  obtain ⟨fh, fv, hR⟩ := h0
  have k262 : Cond.constantLong RX4 262 (31) ∈ wsX4_withArcher := by decide +kernel
  have k284 : Cond.constantDouble RX4 284 (4652218415073722368) ∈ wsX4_withArcher := by decide +kernel
  have hA6 := hI.A6
  have hj6 : j < 6 := by omega
  refine aw_lload_n C dX4_withArcher_0 rfl ?_
  refine aw_lstore C dX4_withArcher_1 (by decide) ?_
  refine aw_iconst C (v := 0) (by decide) dX4_withArcher_3 ?_
  refine aw_istore C dX4_withArcher_4 (by decide) ?_
  refine aw_lv (lv' := [(0, .ref (L 0 0)), (1, .long d0), (3, .int (nI j)), (4, .long d0), (6, .int 0)]) ⟨rfl, rfl, rfl, rfl, rfl, trivial⟩ ?_
  have loop6 : ∀ (n : Nat) (i : Nat) (xi : Int32) (d : Int64) (μ1 : mu), 11 - i = n → xi = nI i → i ≤ 11 → d = (dgA d0 (fun k => (oaF S j k).toInt64) i) → RX g L S μ1 → FrC L μ μ1 → Aw p l e (rmOf 10 24 144 180) s m args below meth c Q s0.heap.size D 7 μ1 (2 * i) (12 * i) 6 [(0, .ref (L 0 0)), (1, .long d0), (3, .int (nI j)), (4, .long d), (6, .int xi)] [] := by
    intro n
    induction n using Nat.strongRecOn with
    | _ n ih =>
      intro i xi d μ1 hn hx hk hd hXl hFl
      refine aw_iload C dX4_withArcher_6 rfl ?_
      refine aw_bipush C (v := 10) (by decide) dX4_withArcher_8 ?_
      refine aw_icmp_gt C (tgt := 36) dX4_withArcher_10 (by decide) (fun c_10 => ?_) (fun c_10 => ?_)
      · have e8 : i = 11 := by have h9 : nI 10 < xi := c_10; rw [hx, nI_ltI (by decide) (by omega)] at h9; omega
        subst e8
        subst hd
        obtain ⟨fhl, fvl, hRl⟩ := id hXl
        refine aw_lload C dX4_withArcher_36 rfl ?_
        refine aw_ldc2 C k262 dX4_withArcher_38 ?_
        refine aw_lmul C dX4_withArcher_41 ?_
        refine aw_ldc2d C k284 dX4_withArcher_42 ?_
        refine aw_aload_n C dX4_withArcher_45 rfl ?_
        refine aw_iload_n C dX4_withArcher_46 rfl ?_
        refine ax_callV (n := 1) C hE hQ hnt (ci := 6) (q := (RX4, TX4, 16)) (k_X4_speed (x := nI j) hl9 B hXl hI) gX4_withArcher_X4_speed rfl ⟨rfl, rfl⟩ (by decide +kernel) ⟨by decide, by decide⟩ rfl rfl hRl.mn rfl (Nat.le_of_ble_eq_true rfl) dX4_withArcher_47 ⟨by show _ ≤ 24; omega, by show _ ≤ 144; omega⟩ ⟨by show _ ≤ 24; omega, by show _ ≤ 144; omega⟩ (fun E9 μ9 hp => by exact absurd (stC_0 hj hI.A6) hp.1.1) (fun v μ' hp => ?_)
        obtain ⟨-, rfl, hX3, hF3⟩ := hp
        refine aw_st (show _ = [.double (sdF S j), .double 4652218415073722368, .long ((dgA d0 (fun k => (oaF S j k).toInt64) 11) * 31)] by rw [ix_nI hj6 (by decide)]; rfl) ?_
        refine aw_st (st' := [.double (sdF S j), .double 4652218415073722368, .long ((dgA d0 (fun k => (oaF S j k).toInt64) 11) * 31)]) rfl ?_
        obtain ⟨fh3, fv3, hR3⟩ := id hX3
        refine aw_dmul C (sd4_ok hI hj) dX4_withArcher_50 ?_
        refine aw_d2l C dX4_withArcher_51 ?_
        refine aw_ladd C dX4_withArcher_52 ?_
        refine aw_lstore C dX4_withArcher_53 (by decide) ?_
        refine aw_lload C dX4_withArcher_55 rfl ?_
        refine aw_ldc2 C k262 dX4_withArcher_57 ?_
        refine aw_lmul C dX4_withArcher_60 ?_
        refine aw_aload_n C dX4_withArcher_61 rfl ?_
        refine aw_iload_n C dX4_withArcher_62 rfl ?_
        refine ax_callV (n := 1) C hE hQ hnt (ci := 6) (q := (RX4, TX4, 16)) (k_X4_best (x := nI j) hl9 B hX3 hI) gX4_withArcher_X4_best rfl ⟨rfl, rfl⟩ (by decide +kernel) ⟨by decide, by decide⟩ rfl rfl hR3.mn rfl (Nat.le_of_ble_eq_true rfl) dX4_withArcher_63 ⟨by show _ ≤ 24; omega, by show _ ≤ 144; omega⟩ ⟨by show _ ≤ 24; omega, by show _ ≤ 144; omega⟩ (fun E9 μ9 hp => by exact absurd (stC_0 hj hI.A6) hp.1.1) (fun v μ' hp => ?_)
        obtain ⟨-, rfl, hX4, hF4⟩ := hp
        refine aw_st (show _ = [.int (beF S j), .long ((((dgA d0 (fun k => (oaF S j k).toInt64) 11) * 31) + (FP.d2l (FP.dmul 4652218415073722368 (sdF S j)))) * 31)] by rw [ix_nI hj6 (by decide)]; rfl) ?_
        refine aw_st (st' := [.int (beF S j), .long ((((dgA d0 (fun k => (oaF S j k).toInt64) 11) * 31) + (FP.d2l (FP.dmul 4652218415073722368 (sdF S j)))) * 31)]) rfl ?_
        obtain ⟨fh4, fv4, hR4⟩ := id hX4
        refine aw_i2l C dX4_withArcher_66 ?_
        refine aw_ladd C dX4_withArcher_67 ?_
        refine aw_lret C hQe ?_ (by omega) (by omega) dX4_withArcher_68
        exact ⟨rfl, by rw [dgR], hX4, ((hFl.tr hF3).tr hF4)⟩
      · have hi : i < 11 := by have h9 : ¬ nI 10 < xi := c_10; rw [hx, nI_ltI (by decide) (by omega)] at h9; omega
        subst hx
        obtain ⟨fhl, fvl, hRl⟩ := id hXl
        refine aw_lload C dX4_withArcher_13 rfl ?_
        refine aw_ldc2 C k262 dX4_withArcher_15 ?_
        refine aw_lmul C dX4_withArcher_18 ?_
        refine aw_aload_n C dX4_withArcher_19 rfl ?_
        refine aw_iload_n C dX4_withArcher_20 rfl ?_
        refine aw_iload C dX4_withArcher_21 rfl ?_
        refine ax_callV (n := 2) C hE hQ hnt (ci := 6) (q := (RX4, TX4, 16)) (k_X4_ofArcher (x := nI j) (w := nI i) hl9 B hXl hI) gX4_withArcher_X4_ofArcher rfl ⟨rfl, rfl⟩ (by decide +kernel) ⟨by decide, by decide⟩ rfl rfl hRl.mn rfl (Nat.le_of_ble_eq_true rfl) dX4_withArcher_23 ⟨by show _ ≤ 24; omega, by show _ ≤ 144; omega⟩ ⟨by show _ ≤ 24; omega, by show _ ≤ 144; omega⟩ (fun E9 μ9 hp => by exact absurd (oaC_0 hj hI.A6 hi) hp.1.1) (fun v μ' hp => ?_)
        obtain ⟨-, rfl, hX2, hF2⟩ := hp
        refine aw_st (show _ = [.int (oaF S j i), .long (d * 31)] by rw [ix_nI hi (by decide), ix_nI hj6 (by decide)]; rfl) ?_
        refine aw_st (st' := [.int (oaF S j i), .long (d * 31)]) rfl ?_
        obtain ⟨fh2, fv2, hR2⟩ := id hX2
        refine aw_i2l C dX4_withArcher_26 ?_
        refine aw_ladd C dX4_withArcher_27 ?_
        refine aw_lstore C dX4_withArcher_28 (by decide) ?_
        refine aw_iinc C dX4_withArcher_30 rfl (by decide) ?_
        refine aw_goto C (tgt := 6) dX4_withArcher_33 (by decide) ?_
        refine aw_widen (n := 2 * (i + 1)) (k := 12 * (i + 1)) (by omega) (by omega) ?_
        refine aw_lv (lv' := [(0, .ref (L 0 0)), (1, .long d0), (3, .int (nI j)), (4, .long ((d * 31) + ((oaF S j i).toInt64))), (6, .int (nI i + Int32.ofInt 1))]) ⟨rfl, rfl, rfl, rfl, rfl, trivial⟩ ?_
        exact ih _ (by omega) (i + 1) (nI i + Int32.ofInt 1) ((d * 31) + ((oaF S j i).toInt64)) _ rfl (nI_inc i) (by omega) (by rw [dgA_s, ← hd]) hX2 (hFl.tr hF2)
  exact loop6 _ 0 0 d0 μ rfl rfl (by decide) rfl (⟨_, _, hR⟩) FrC.rf
set_option maxRecDepth 100000 in
set_option maxHeartbeats 4000000 in
theorem k_X4_withQuiver (hl9 : l.stackTraces = false) (B : Base s0) {μ : mu} {L : Nat → Nat → Nat} {S : SS} (h0 : RX g L S μ) (hI : Iv S) {d0 : Int64} {j : Nat} (hj : j < S.nQ) : Cy l yX4_withQuiver wsX4_withQuiver (rmOf 10 62 372 180) s0 D (tyL g) [.ref (L 0 0), .long d0, .int (nI j)] μ 62 372 (fun v μ' => (0 : Nat) = 0 ∧ v = some (.long (dgQ S d0 j)) ∧ RX g L S μ' ∧ FrC L μ μ') (fun E μ' => px9 [] (0 : Nat) E ∧ RX g L S μ' ∧ FrC L μ μ') := by
  refine Cy.of (cc := cX4_withQuiver) (own := RX4) (maxL := 7) (ret := (some .long)) (by decide) rfl rfl (Nat.le_of_ble_eq_true rfl) ?_
  intro p e s m args below meth c Q C hE hnt hQ hQe
  obtain ⟨fh, fv, hR⟩ := h0
  have k262 : Cond.constantLong RX4 262 (31) ∈ wsX4_withQuiver := by decide +kernel
  have k296 : Cond.constantDouble RX4 296 (4661225614328463360) ∈ wsX4_withQuiver := by decide +kernel
  have hQ6 := hI.Q6
  have hj6 : j < 6 := by omega
  refine aw_lload_n C dX4_withQuiver_0 rfl ?_
  refine aw_lstore C dX4_withQuiver_1 (by decide) ?_
  refine aw_iconst C (v := 0) (by decide) dX4_withQuiver_3 ?_
  refine aw_istore C dX4_withQuiver_4 (by decide) ?_
  refine aw_lv (lv' := [(0, .ref (L 0 0)), (1, .long d0), (3, .int (nI j)), (4, .long d0), (6, .int 0)]) ⟨rfl, rfl, rfl, rfl, rfl, trivial⟩ ?_
  have loop6 : ∀ (n : Nat) (i : Nat) (xi : Int32) (d : Int64) (μ1 : mu), 7 - i = n → xi = nI i → i ≤ 7 → d = (dgA d0 (fun k => (oqF S j k).toInt64) i) → RX g L S μ1 → FrC L μ μ1 → Aw p l e (rmOf 10 62 372 180) s m args below meth c Q s0.heap.size D 7 μ1 (2 * i) (12 * i) 6 [(0, .ref (L 0 0)), (1, .long d0), (3, .int (nI j)), (4, .long d), (6, .int xi)] [] := by
    intro n
    induction n using Nat.strongRecOn with
    | _ n ih =>
      intro i xi d μ1 hn hx hk hd hXl hFl
      refine aw_iload C dX4_withQuiver_6 rfl ?_
      refine aw_bipush C (v := 6) (by decide) dX4_withQuiver_8 ?_
      refine aw_icmp_gt C (tgt := 36) dX4_withQuiver_10 (by decide) (fun c_10 => ?_) (fun c_10 => ?_)
      · refine aw_iconst C (v := 0) (by decide) dX4_withQuiver_36 ?_
        refine aw_istore C dX4_withQuiver_37 (by decide) ?_
        have e8 : i = 7 := by have h9 : nI 6 < xi := c_10; rw [hx, nI_ltI (by decide) (by omega)] at h9; omega
        refine aw_widen (n := 14) (k := 84) (by omega) (by omega) ?_
        refine aw_lv (lv' := [(0, .ref (L 0 0)), (1, .long d0), (3, .int (nI j)), (4, .long d), (6, .int 0)]) ⟨rfl, rfl, rfl, rfl, rfl, trivial⟩ ?_
        have loop39 : ∀ (n : Nat) (i : Nat) (xi : Int32) (d : Int64) (μ1 : mu), 12 - i = n → xi = nI i → i ≤ 12 → d = dgH S j (dgA d0 (fun k => (oqF S j k).toInt64) 7) i → RX g L S μ1 → FrC L μ μ1 → Aw p l e (rmOf 10 62 372 180) s m args below meth c Q s0.heap.size D 7 μ1 (14 + 4 * i) (84 + 24 * i) 39 [(0, .ref (L 0 0)), (1, .long d0), (3, .int (nI j)), (4, .long d), (6, .int xi)] [] := by
          intro n
          induction n using Nat.strongRecOn with
          | _ n ih =>
            intro i xi d μ1 hn hx hk hd hXl hFl
            refine aw_iload C dX4_withQuiver_39 rfl ?_
            refine aw_bipush C (v := 12) (by decide) dX4_withQuiver_41 ?_
            refine aw_icmp_ge C (tgt := 96) dX4_withQuiver_43 (by decide) (fun c_43 => ?_) (fun c_43 => ?_)
            · refine aw_lload C dX4_withQuiver_96 rfl ?_
              refine aw_lret C hQe ?_ (by omega) (by omega) dX4_withQuiver_98
              have e8 : i = 12 := by have := ge_of (n := 12) hx (by omega) (by omega) c_43; omega
              exact ⟨rfl, by rw [hd, e8, dgQ], hXl, hFl⟩
            · have hi : i < 12 := lt_of (n := 12) hx (by omega) (by omega) c_43
              subst hx
              obtain ⟨fhl, fvl, hRl⟩ := id hXl
              refine aw_lload C dX4_withQuiver_46 rfl ?_
              refine aw_ldc2 C k262 dX4_withQuiver_48 ?_
              refine aw_lmul C dX4_withQuiver_51 ?_
              refine aw_ldc2d C k296 dX4_withQuiver_52 ?_
              refine aw_aload_n C dX4_withQuiver_55 rfl ?_
              refine aw_iload_n C dX4_withQuiver_56 rfl ?_
              refine aw_iload C dX4_withQuiver_57 rfl ?_
              refine aw_iconst C (v := 0) (by decide) dX4_withQuiver_59 ?_
              refine ax_callV (n := 3) C hE hQ hnt (ci := 6) (q := (RX4, TX4, 16)) (k_X4_hit (x := nI j) (y := nI i) (b := 0) hl9 B hXl hI) gX4_withQuiver_X4_hit rfl ⟨rfl, rfl⟩ (by decide +kernel) ⟨by decide, by decide⟩ rfl rfl hRl.mn rfl (Nat.le_of_ble_eq_true rfl) dX4_withQuiver_60 ⟨by show _ ≤ 62; omega, by show _ ≤ 372; omega⟩ ⟨by show _ ≤ 62; omega, by show _ ≤ 372; omega⟩ (fun E9 μ9 hp => by exact absurd (hiC_0 hj hI.Q6 hi) hp.1.1) (fun v μ' hp => ?_)
              obtain ⟨-, rfl, hX2, hF2⟩ := hp
              refine aw_st (show _ = [.double (S.H j i), .double 4661225614328463360, .long (d * 31)] by rw [ix_nI hi (by decide), ix_nI hj6 (by decide)]; rfl) ?_
              refine aw_st (st' := [.double (S.H j i), .double 4661225614328463360, .long (d * 31)]) rfl ?_
              obtain ⟨fh2, fv2, hR2⟩ := id hX2
              refine aw_dmul C (h4_ok hI j i).1 dX4_withQuiver_63 ?_
              refine aw_d2l C dX4_withQuiver_64 ?_
              refine aw_ladd C dX4_withQuiver_65 ?_
              refine aw_lstore C dX4_withQuiver_66 (by decide) ?_
              refine aw_lload C dX4_withQuiver_68 rfl ?_
              refine aw_ldc2 C k262 dX4_withQuiver_70 ?_
              refine aw_lmul C dX4_withQuiver_73 ?_
              refine aw_ldc2d C k296 dX4_withQuiver_74 ?_
              refine aw_aload_n C dX4_withQuiver_77 rfl ?_
              refine aw_iload_n C dX4_withQuiver_78 rfl ?_
              refine aw_iload C dX4_withQuiver_79 rfl ?_
              refine aw_iconst C (v := 1) (by decide) dX4_withQuiver_81 ?_
              refine ax_callV (n := 3) C hE hQ hnt (ci := 6) (q := (RX4, TX4, 16)) (k_X4_hit (x := nI j) (y := nI i) (b := 1) hl9 B hX2 hI) gX4_withQuiver_X4_hit rfl ⟨rfl, rfl⟩ (by decide +kernel) ⟨by decide, by decide⟩ rfl rfl hR2.mn rfl (Nat.le_of_ble_eq_true rfl) dX4_withQuiver_82 ⟨by show _ ≤ 62; omega, by show _ ≤ 372; omega⟩ ⟨by show _ ≤ 62; omega, by show _ ≤ 372; omega⟩ (fun E9 μ9 hp => by exact absurd (hiC_0 hj hI.Q6 hi) hp.1.1) (fun v μ' hp => ?_)
              obtain ⟨-, rfl, hX3, hF3⟩ := hp
              refine aw_st (show _ = [.double (S.V j i), .double 4661225614328463360, .long (((d * 31) + (FP.d2l (FP.dmul 4661225614328463360 (S.H j i)))) * 31)] by rw [ix_nI hi (by decide), ix_nI hj6 (by decide)]; rfl) ?_
              refine aw_st (st' := [.double (S.V j i), .double 4661225614328463360, .long (((d * 31) + (FP.d2l (FP.dmul 4661225614328463360 (S.H j i)))) * 31)]) rfl ?_
              obtain ⟨fh3, fv3, hR3⟩ := id hX3
              refine aw_dmul C (h4_ok hI j i).2 dX4_withQuiver_85 ?_
              refine aw_d2l C dX4_withQuiver_86 ?_
              refine aw_ladd C dX4_withQuiver_87 ?_
              refine aw_lstore C dX4_withQuiver_88 (by decide) ?_
              refine aw_iinc C dX4_withQuiver_90 rfl (by decide) ?_
              refine aw_goto C (tgt := 39) dX4_withQuiver_93 (by decide) ?_
              refine aw_widen (n := 14 + 4 * (i + 1)) (k := 84 + 24 * (i + 1)) (by omega) (by omega) ?_
              refine aw_lv (lv' := [(0, .ref (L 0 0)), (1, .long d0), (3, .int (nI j)), (4, .long ((((d * 31) + (FP.d2l (FP.dmul 4661225614328463360 (S.H j i)))) * 31) + (FP.d2l (FP.dmul 4661225614328463360 (S.V j i))))), (6, .int (nI i + Int32.ofInt 1))]) ⟨rfl, rfl, rfl, rfl, rfl, trivial⟩ ?_
              exact ih _ (by omega) (i + 1) (nI i + Int32.ofInt 1) ((((d * 31) + (FP.d2l (FP.dmul 4661225614328463360 (S.H j i)))) * 31) + (FP.d2l (FP.dmul 4661225614328463360 (S.V j i)))) _ rfl (nI_inc i) (by omega) (by rw [dgH_s, ← hd]) hX3 ((hFl.tr hF2).tr hF3)
        exact loop39 _ 0 0 d μ1 rfl rfl (by decide) (by rw [hd, e8, dgH_0]) hXl hFl
      · have hi : i < 7 := by have h9 : ¬ nI 6 < xi := c_10; rw [hx, nI_ltI (by decide) (by omega)] at h9; omega
        subst hx
        obtain ⟨fhl, fvl, hRl⟩ := id hXl
        refine aw_lload C dX4_withQuiver_13 rfl ?_
        refine aw_ldc2 C k262 dX4_withQuiver_15 ?_
        refine aw_lmul C dX4_withQuiver_18 ?_
        refine aw_aload_n C dX4_withQuiver_19 rfl ?_
        refine aw_iload_n C dX4_withQuiver_20 rfl ?_
        refine aw_iload C dX4_withQuiver_21 rfl ?_
        refine ax_callV (n := 2) C hE hQ hnt (ci := 6) (q := (RX4, TX4, 16)) (k_X4_ofQuiver (x := nI j) (w := nI i) hl9 B hXl hI) gX4_withQuiver_X4_ofQuiver rfl ⟨rfl, rfl⟩ (by decide +kernel) ⟨by decide, by decide⟩ rfl rfl hRl.mn rfl (Nat.le_of_ble_eq_true rfl) dX4_withQuiver_23 ⟨by show _ ≤ 62; omega, by show _ ≤ 372; omega⟩ ⟨by show _ ≤ 62; omega, by show _ ≤ 372; omega⟩ (fun E9 μ9 hp => by exact absurd (oqC_0 hj hI.Q6 hi) hp.1.1) (fun v μ' hp => ?_)
        obtain ⟨-, rfl, hX2, hF2⟩ := hp
        refine aw_st (show _ = [.int (oqF S j i), .long (d * 31)] by rw [ix_nI hi (by decide), ix_nI hj6 (by decide)]; rfl) ?_
        refine aw_st (st' := [.int (oqF S j i), .long (d * 31)]) rfl ?_
        obtain ⟨fh2, fv2, hR2⟩ := id hX2
        refine aw_i2l C dX4_withQuiver_26 ?_
        refine aw_ladd C dX4_withQuiver_27 ?_
        refine aw_lstore C dX4_withQuiver_28 (by decide) ?_
        refine aw_iinc C dX4_withQuiver_30 rfl (by decide) ?_
        refine aw_goto C (tgt := 6) dX4_withQuiver_33 (by decide) ?_
        refine aw_widen (n := 2 * (i + 1)) (k := 12 * (i + 1)) (by omega) (by omega) ?_
        refine aw_lv (lv' := [(0, .ref (L 0 0)), (1, .long d0), (3, .int (nI j)), (4, .long ((d * 31) + ((oqF S j i).toInt64))), (6, .int (nI i + Int32.ofInt 1))]) ⟨rfl, rfl, rfl, rfl, rfl, trivial⟩ ?_
        exact ih _ (by omega) (i + 1) (nI i + Int32.ofInt 1) ((d * 31) + ((oqF S j i).toInt64)) _ rfl (nI_inc i) (by omega) (by rw [dgA_s, ← hd]) hX2 (hFl.tr hF2)
  exact loop6 _ 0 0 d0 μ rfl rfl (by decide) rfl (⟨_, _, hR⟩) FrC.rf
set_option maxRecDepth 100000 in
set_option maxHeartbeats 4000000 in
theorem k_X4_digest (hl9 : l.stackTraces = false) (B : Base s0) {μ : mu} {L : Nat → Nat → Nat} {S : SS} (h0 : RX g L S μ) (hI : Iv S)  : Cy l yX4_digest wsX4_digest (rmOf 11 536 3216 230) s0 D (tyL g) [.ref (L 0 0)] μ 536 3216 (fun v μ' => (0 : Nat) = 0 ∧ v = some (.long (dgF S)) ∧ RX g L S μ' ∧ FrC L μ μ') (fun E μ' => px9 [] (0 : Nat) E ∧ RX g L S μ' ∧ FrC L μ μ') := by
  refine Cy.of (cc := cX4_digest) (own := RX4) (maxL := 4) (ret := (some .long)) (by decide) rfl rfl (Nat.le_of_ble_eq_true rfl) ?_
  intro p e s m args below meth c Q C hE hnt hQ hQe
  obtain ⟨fh, fv, hR⟩ := h0
  have in_RX4 : ∀ w ∈ u_ws RX4 TX4 16, w ∈ wsX4_digest := by decide +kernel
  have k260 : Cond.constantLong RX4 260 (58318) ∈ wsX4_digest := by decide +kernel
  have k262 : Cond.constantLong RX4 262 (31) ∈ wsX4_digest := by decide +kernel
  have f51 : FL wsX4_digest RX4 51 6 "ArrowField" RX4 TX4 16 2 := ⟨in_RX4, rfl, by decide, by decide +kernel, Or.inl rfl⟩
  have f67 : FL wsX4_digest RX4 67 6 "ArrowField" RX4 TX4 16 3 := ⟨in_RX4, rfl, by decide, by decide +kernel, Or.inl rfl⟩
  have hQ6 := hI.Q6
  have hA6 := hI.A6
  refine aw_ldc2 C k260 dX4_digest_0 ?_
  refine aw_lstore_n C dX4_digest_3 (by decide) ?_
  refine aw_iconst C (v := 0) (by decide) dX4_digest_4 ?_
  refine aw_istore_n C dX4_digest_5 (by decide) ?_
  refine aw_lv (lv' := [(0, .ref (L 0 0)), (1, .long 58318), (3, .int 0)]) ⟨rfl, rfl, rfl, trivial⟩ ?_
  have loop6 : ∀ (n : Nat) (i : Nat) (xi : Int32) (d : Int64) (μ1 : mu), 12 - i = n → xi = nI i → i ≤ 12 → d = (dgA 58318 (fun k => (mnF S k).toInt64) i) → RX g L S μ1 → FrC L μ μ1 → Aw p l e (rmOf 11 536 3216 230) s m args below meth c Q s0.heap.size D 4 μ1 i (6 * i) 6 [(0, .ref (L 0 0)), (1, .long d), (3, .int xi)] [] := by
    intro n
    induction n using Nat.strongRecOn with
    | _ n ih =>
      intro i xi d μ1 hn hx hk hd hXl hFl
      refine aw_iload_n C dX4_digest_6 rfl ?_
      refine aw_bipush C (v := 11) (by decide) dX4_digest_7 ?_
      refine aw_icmp_gt C (tgt := 31) dX4_digest_9 (by decide) (fun c_9 => ?_) (fun c_9 => ?_)
      · refine aw_iconst C (v := 0) (by decide) dX4_digest_31 ?_
        refine aw_istore_n C dX4_digest_32 (by decide) ?_
        have e8 : i = 12 := by have h9 : nI 11 < xi := c_9; rw [hx, nI_ltI (by decide) (by omega)] at h9; omega
        refine aw_widen (n := 12) (k := 72) (by omega) (by omega) ?_
        refine aw_lv (lv' := [(0, .ref (L 0 0)), (1, .long d), (3, .int 0)]) ⟨rfl, rfl, rfl, trivial⟩ ?_
        have loop33 : ∀ (n : Nat) (i : Nat) (xi : Int32) (d : Int64) (μ1 : mu), 8 - i = n → xi = nI i → i ≤ 8 → d = (dgA (dgA 58318 (fun k => (mnF S k).toInt64) 12) (fun k => (omF S k).toInt64) i) → RX g L S μ1 → FrC L μ μ1 → Aw p l e (rmOf 11 536 3216 230) s m args below meth c Q s0.heap.size D 4 μ1 (12 + i) (72 + 6 * i) 33 [(0, .ref (L 0 0)), (1, .long d), (3, .int xi)] [] := by
          intro n
          induction n using Nat.strongRecOn with
          | _ n ih =>
            intro i xi d μ1 hn hx hk hd hXl hFl
            refine aw_iload_n C dX4_digest_33 rfl ?_
            refine aw_bipush C (v := 7) (by decide) dX4_digest_34 ?_
            refine aw_icmp_gt C (tgt := 58) dX4_digest_36 (by decide) (fun c_36 => ?_) (fun c_36 => ?_)
            · have e8 : i = 8 := by have h9 : nI 7 < xi := c_36; rw [hx, nI_ltI (by decide) (by omega)] at h9; omega
              subst e8
              subst hd
              obtain ⟨fhl, fvl, hRl⟩ := id hXl
              refine aw_lload_n C dX4_digest_58 rfl ?_
              refine aw_ldc2 C k262 dX4_digest_59 ?_
              refine aw_lmul C dX4_digest_62 ?_
              refine aw_aload_n C dX4_digest_63 rfl ?_
              refine ax_callV (n := 0) C hE hQ hnt (ci := 6) (q := (RX4, TX4, 16)) (k_X4_winner hl9 B hXl hI) gX4_digest_X4_winner rfl ⟨rfl, rfl⟩ (by decide +kernel) ⟨by decide, by decide⟩ rfl rfl hRl.mn rfl (Nat.le_of_ble_eq_true rfl) dX4_digest_64 ⟨by show _ ≤ 536; omega, by show _ ≤ 3216; omega⟩ ⟨by show _ ≤ 536; omega, by show _ ≤ 3216; omega⟩ (fun E9 μ9 hp => by exact absurd (rfl) hp.1.1) (fun v μ' hp => ?_)
              obtain ⟨-, rfl, hX5, hF5⟩ := hp
              refine aw_st (st' := [.int (S.c 14), .long ((dgA (dgA 58318 (fun k => (mnF S k).toInt64) 12) (fun k => (omF S k).toInt64) 8) * 31)]) rfl ?_
              obtain ⟨fh5, fv5, hR5⟩ := id hX5
              refine aw_i2l C dX4_digest_67 ?_
              refine aw_ladd C dX4_digest_68 ?_
              refine aw_lstore_n C dX4_digest_69 (by decide) ?_
              refine aw_iconst C (v := 0) (by decide) dX4_digest_70 ?_
              refine aw_istore_n C dX4_digest_71 (by decide) ?_
              refine aw_lv (lv' := [(0, .ref (L 0 0)), (1, .long ((dgA (dgA 58318 (fun k => (mnF S k).toInt64) 12) (fun k => (omF S k).toInt64) 8) * 31 + (S.c 14).toInt64)), (3, .int 0)]) ⟨rfl, rfl, rfl, trivial⟩ ?_
              have loop72 : ∀ (n : Nat) (i : Nat) (xi : Int32) (d : Int64) (μ1 : mu), S.nA - i = n → xi = nI i → i ≤ S.nA → d = dgL (dgR S) ((dgA (dgA 58318 (fun k => (mnF S k).toInt64) 12) (fun k => (omF S k).toInt64) 8) * 31 + (S.c 14).toInt64) i → RX g L S μ1 → FrC L μ μ1 → Aw p l e (rmOf 11 536 3216 230) s m args below meth c Q s0.heap.size D 4 μ1 (20 + 24 * i) (120 + 144 * i) 72 [(0, .ref (L 0 0)), (1, .long d), (3, .int xi)] [] := by
                intro n
                induction n using Nat.strongRecOn with
                | _ n ih =>
                  intro i xi d μ1 hn hx hk hd hXl hFl
                  refine aw_iload_n C dX4_digest_72 rfl ?_
                  obtain ⟨fhl, fvl, hRl⟩ := id hXl
                  refine aw_aload_n C dX4_digest_73 rfl ?_
                  refine aw_get C f51 hRl.mn rfl dX4_digest_74 ?_
                  refine aw_icmp_ge C (tgt := 93) dX4_digest_77 (by decide) (fun c_77 => ?_) (fun c_77 => ?_)
                  · refine aw_iconst C (v := 0) (by decide) dX4_digest_93 ?_
                    refine aw_istore_n C dX4_digest_94 (by decide) ?_
                    have e8 : i = S.nA := by have := ge_of (n := S.nA) hx (by omega) (by omega) (by rw [hI.1.1] at c_77; exact c_77); omega
                    refine aw_widen (n := 164) (k := 984) (by omega) (by omega) ?_
                    refine aw_lv (lv' := [(0, .ref (L 0 0)), (1, .long d), (3, .int 0)]) ⟨rfl, rfl, rfl, trivial⟩ ?_
                    have loop95 : ∀ (n : Nat) (i : Nat) (xi : Int32) (d : Int64) (μ1 : mu), S.nQ - i = n → xi = nI i → i ≤ S.nQ → d = dgL (dgQ S) (dgL (dgR S) ((dgA (dgA 58318 (fun k => (mnF S k).toInt64) 12) (fun k => (omF S k).toInt64) 8) * 31 + (S.c 14).toInt64) S.nA) i → RX g L S μ1 → FrC L μ μ1 → Aw p l e (rmOf 11 536 3216 230) s m args below meth c Q s0.heap.size D 4 μ1 (164 + 62 * i) (984 + 372 * i) 95 [(0, .ref (L 0 0)), (1, .long d), (3, .int xi)] [] := by
                      intro n
                      induction n using Nat.strongRecOn with
                      | _ n ih =>
                        intro i xi d μ1 hn hx hk hd hXl hFl
                        refine aw_iload_n C dX4_digest_95 rfl ?_
                        obtain ⟨fhl, fvl, hRl⟩ := id hXl
                        refine aw_aload_n C dX4_digest_96 rfl ?_
                        refine aw_get C f67 hRl.mn rfl dX4_digest_97 ?_
                        refine aw_icmp_ge C (tgt := 116) dX4_digest_100 (by decide) (fun c_100 => ?_) (fun c_100 => ?_)
                        · refine aw_lload_n C dX4_digest_116 rfl ?_
                          refine aw_lret C hQe ?_ (by omega) (by omega) dX4_digest_117
                          have e8 : i = S.nQ := by have := ge_of (n := S.nQ) hx (by omega) (by omega) (by rw [hI.1.2.2.1] at c_100; exact c_100); omega
                          exact ⟨rfl, by rw [hd, e8, dgF], hXl, hFl⟩
                        · have hi : i < S.nQ := lt_of (n := S.nQ) hx (by omega) (by omega) (by rw [hI.1.2.2.1] at c_100; exact c_100)
                          subst hx
                          obtain ⟨fhl, fvl, hRl⟩ := id hXl
                          refine aw_aload_n C dX4_digest_103 rfl ?_
                          refine aw_lload_n C dX4_digest_104 rfl ?_
                          refine aw_iload_n C dX4_digest_105 rfl ?_
                          refine ax_callV (n := 2) C hE hQ hnt (ci := 6) (q := (RX4, TX4, 16)) (k_X4_withQuiver (d0 := d) (j := i) hl9 B hXl hI hi) gX4_digest_X4_withQuiver rfl ⟨rfl, rfl⟩ (by decide +kernel) ⟨by decide, by decide⟩ rfl rfl hRl.mn rfl (Nat.le_of_ble_eq_true rfl) dX4_digest_106 ⟨by show _ ≤ 536; omega, by show _ ≤ 3216; omega⟩ ⟨by show _ ≤ 536; omega, by show _ ≤ 3216; omega⟩ (fun E9 μ9 hp => by exact absurd (rfl) hp.1.1) (fun v μ' hp => ?_)
                          obtain ⟨-, rfl, hX2, hF2⟩ := hp
                          refine aw_st (st' := [.long (dgQ S d i)]) rfl ?_
                          obtain ⟨fh2, fv2, hR2⟩ := id hX2
                          refine aw_lstore_n C dX4_digest_109 (by decide) ?_
                          refine aw_iinc C dX4_digest_110 rfl (by decide) ?_
                          refine aw_goto C (tgt := 95) dX4_digest_113 (by decide) ?_
                          refine aw_widen (n := 164 + 62 * (i + 1)) (k := 984 + 372 * (i + 1)) (by omega) (by omega) ?_
                          refine aw_lv (lv' := [(0, .ref (L 0 0)), (1, .long (dgQ S d i)), (3, .int (nI i + Int32.ofInt 1))]) ⟨rfl, rfl, rfl, trivial⟩ ?_
                          exact ih _ (by omega) (i + 1) (nI i + Int32.ofInt 1) (dgQ S d i) _ rfl (nI_inc i) (by omega) (by rw [dgL_s, ← hd]) hX2 (hFl.tr hF2)
                    exact loop95 _ 0 0 d μ1 rfl rfl (Nat.zero_le _) (by rw [hd, e8, dgL_0]) hXl hFl
                  · have hi : i < S.nA := lt_of (n := S.nA) hx (by omega) (by omega) (by rw [hI.1.1] at c_77; exact c_77)
                    subst hx
                    obtain ⟨fhl, fvl, hRl⟩ := id hXl
                    refine aw_aload_n C dX4_digest_80 rfl ?_
                    refine aw_lload_n C dX4_digest_81 rfl ?_
                    refine aw_iload_n C dX4_digest_82 rfl ?_
                    refine ax_callV (n := 2) C hE hQ hnt (ci := 6) (q := (RX4, TX4, 16)) (k_X4_withArcher (d0 := d) (j := i) hl9 B hXl hI hi) gX4_digest_X4_withArcher rfl ⟨rfl, rfl⟩ (by decide +kernel) ⟨by decide, by decide⟩ rfl rfl hRl.mn rfl (Nat.le_of_ble_eq_true rfl) dX4_digest_83 ⟨by show _ ≤ 536; omega, by show _ ≤ 3216; omega⟩ ⟨by show _ ≤ 536; omega, by show _ ≤ 3216; omega⟩ (fun E9 μ9 hp => by exact absurd (rfl) hp.1.1) (fun v μ' hp => ?_)
                    obtain ⟨-, rfl, hX2, hF2⟩ := hp
                    refine aw_st (st' := [.long (dgR S d i)]) rfl ?_
                    obtain ⟨fh2, fv2, hR2⟩ := id hX2
                    refine aw_lstore_n C dX4_digest_86 (by decide) ?_
                    refine aw_iinc C dX4_digest_87 rfl (by decide) ?_
                    refine aw_goto C (tgt := 72) dX4_digest_90 (by decide) ?_
                    refine aw_widen (n := 20 + 24 * (i + 1)) (k := 120 + 144 * (i + 1)) (by omega) (by omega) ?_
                    refine aw_lv (lv' := [(0, .ref (L 0 0)), (1, .long (dgR S d i)), (3, .int (nI i + Int32.ofInt 1))]) ⟨rfl, rfl, rfl, trivial⟩ ?_
                    exact ih _ (by omega) (i + 1) (nI i + Int32.ofInt 1) (dgR S d i) _ rfl (nI_inc i) (by omega) (by rw [dgL_s, ← hd]) hX2 (hFl.tr hF2)
              exact loop72 _ 0 0 ((dgA (dgA 58318 (fun k => (mnF S k).toInt64) 12) (fun k => (omF S k).toInt64) 8) * 31 + (S.c 14).toInt64) _ rfl rfl (Nat.zero_le _) dgL_0.symm hX5 (hFl.tr hF5)
            · have hi : i < 8 := by have h9 : ¬ nI 7 < xi := c_36; rw [hx, nI_ltI (by decide) (by omega)] at h9; omega
              subst hx
              obtain ⟨fhl, fvl, hRl⟩ := id hXl
              refine aw_lload_n C dX4_digest_39 rfl ?_
              refine aw_ldc2 C k262 dX4_digest_40 ?_
              refine aw_lmul C dX4_digest_43 ?_
              refine aw_aload_n C dX4_digest_44 rfl ?_
              refine aw_iload_n C dX4_digest_45 rfl ?_
              refine ax_callV (n := 1) C hE hQ hnt (ci := 6) (q := (RX4, TX4, 16)) (k_X4_ofMatch (w := nI i) hl9 B hXl hI) gX4_digest_X4_ofMatch rfl ⟨rfl, rfl⟩ (by decide +kernel) ⟨by decide, by decide⟩ rfl rfl hRl.mn rfl (Nat.le_of_ble_eq_true rfl) dX4_digest_46 ⟨by show _ ≤ 536; omega, by show _ ≤ 3216; omega⟩ ⟨by show _ ≤ 536; omega, by show _ ≤ 3216; omega⟩ (fun E9 μ9 hp => by exact absurd (omC_0 hi) hp.1.1) (fun v μ' hp => ?_)
              obtain ⟨-, rfl, hX2, hF2⟩ := hp
              refine aw_st (show _ = [.int (omF S i), .long (d * 31)] by rw [ix_nI hi (by decide)]; rfl) ?_
              refine aw_st (st' := [.int (omF S i), .long (d * 31)]) rfl ?_
              obtain ⟨fh2, fv2, hR2⟩ := id hX2
              refine aw_i2l C dX4_digest_49 ?_
              refine aw_ladd C dX4_digest_50 ?_
              refine aw_lstore_n C dX4_digest_51 (by decide) ?_
              refine aw_iinc C dX4_digest_52 rfl (by decide) ?_
              refine aw_goto C (tgt := 33) dX4_digest_55 (by decide) ?_
              refine aw_widen (n := 12 + (i + 1)) (k := 72 + 6 * (i + 1)) (by omega) (by omega) ?_
              refine aw_lv (lv' := [(0, .ref (L 0 0)), (1, .long ((d * 31) + ((omF S i).toInt64))), (3, .int (nI i + Int32.ofInt 1))]) ⟨rfl, rfl, rfl, trivial⟩ ?_
              exact ih _ (by omega) (i + 1) (nI i + Int32.ofInt 1) ((d * 31) + ((omF S i).toInt64)) _ rfl (nI_inc i) (by omega) (by rw [dgA_s, ← hd]) hX2 (hFl.tr hF2)
        exact loop33 _ 0 0 d μ1 rfl rfl (by decide) (by rw [hd, e8, dgA_0]) hXl hFl
      · have hi : i < 12 := by have h9 : ¬ nI 11 < xi := c_9; rw [hx, nI_ltI (by decide) (by omega)] at h9; omega
        subst hx
        obtain ⟨fhl, fvl, hRl⟩ := id hXl
        refine aw_lload_n C dX4_digest_12 rfl ?_
        refine aw_ldc2 C k262 dX4_digest_13 ?_
        refine aw_lmul C dX4_digest_16 ?_
        refine aw_aload_n C dX4_digest_17 rfl ?_
        refine aw_iload_n C dX4_digest_18 rfl ?_
        refine ax_callV (n := 1) C hE hQ hnt (ci := 6) (q := (RX4, TX4, 16)) (k_X4_many (w := nI i) hl9 B hXl hI) gX4_digest_X4_many rfl ⟨rfl, rfl⟩ (by decide +kernel) ⟨by decide, by decide⟩ rfl rfl hRl.mn rfl (Nat.le_of_ble_eq_true rfl) dX4_digest_19 ⟨by show _ ≤ 536; omega, by show _ ≤ 3216; omega⟩ ⟨by show _ ≤ 536; omega, by show _ ≤ 3216; omega⟩ (fun E9 μ9 hp => by exact absurd (mnC_0 hi) hp.1.1) (fun v μ' hp => ?_)
        obtain ⟨-, rfl, hX2, hF2⟩ := hp
        refine aw_st (show _ = [.int (mnF S i), .long (d * 31)] by rw [ix_nI hi (by decide)]; rfl) ?_
        refine aw_st (st' := [.int (mnF S i), .long (d * 31)]) rfl ?_
        obtain ⟨fh2, fv2, hR2⟩ := id hX2
        refine aw_i2l C dX4_digest_22 ?_
        refine aw_ladd C dX4_digest_23 ?_
        refine aw_lstore_n C dX4_digest_24 (by decide) ?_
        refine aw_iinc C dX4_digest_25 rfl (by decide) ?_
        refine aw_goto C (tgt := 6) dX4_digest_28 (by decide) ?_
        refine aw_widen (n := i + 1) (k := 6 * (i + 1)) (by omega) (by omega) ?_
        refine aw_lv (lv' := [(0, .ref (L 0 0)), (1, .long ((d * 31) + ((mnF S i).toInt64))), (3, .int (nI i + Int32.ofInt 1))]) ⟨rfl, rfl, rfl, trivial⟩ ?_
        exact ih _ (by omega) (i + 1) (nI i + Int32.ofInt 1) ((d * 31) + ((mnF S i).toInt64)) _ rfl (nI_inc i) (by omega) (by rw [dgA_s, ← hd]) hX2 (hFl.tr hF2)
  exact loop6 _ 0 0 58318 μ rfl rfl (by decide) rfl (⟨_, _, hR⟩) FrC.rf
end KQ
