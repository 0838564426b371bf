section QUIV
variable {l : Launch} {s0 : State} {D : va_G} {g : Nat → ClassId}
set_option maxRecDepth 100000 in
set_option maxHeartbeats 4000000 in
theorem k_J6_bitCount_0f7a4 (B : Base s0) {μ : mu} {x : Int32} : Ct l yJ6_bitCount_0f7a4 wsJ6_bitCount_0f7a4 (rmOf 0 0 0 0) s0 D (tyL g) [.int x] μ 0 0 (fun v9 μ' => v9 = some (.int (bcF x)) ∧ μ' = μ) := by
  refine Ct.of (cc := cJ6_bitCount_0f7a4) (own := RJ6) (maxL := 1) (ret := (some .int)) (by decide) rfl rfl (Nat.le_of_ble_eq_true rfl) ?_
  intro p e s m args below meth c Q C hE hnm hQe
  have k265 : Cond.constant RJ6 265 (1431655765) ∈ wsJ6_bitCount_0f7a4 := by decide +kernel
  have k266 : Cond.constant RJ6 266 (858993459) ∈ wsJ6_bitCount_0f7a4 := by decide +kernel
  have k267 : Cond.constant RJ6 267 (252645135) ∈ wsJ6_bitCount_0f7a4 := by decide +kernel
  refine aw_iload_n C dJ6_bitCount_0f7a4_0 rfl ?_
  refine aw_iload_n C dJ6_bitCount_0f7a4_1 rfl ?_
  refine aw_iconst C (v := 1) (by decide) dJ6_bitCount_0f7a4_2 ?_
  refine aw_iushr C dJ6_bitCount_0f7a4_3 ?_
  refine aw_ldcw C k265 dJ6_bitCount_0f7a4_4 ?_
  refine aw_iand C dJ6_bitCount_0f7a4_7 ?_
  refine aw_isub C dJ6_bitCount_0f7a4_8 ?_
  refine aw_istore_n C dJ6_bitCount_0f7a4_9 (by decide) ?_
  refine aw_iload_n C dJ6_bitCount_0f7a4_10 rfl ?_
  refine aw_ldcw C k266 dJ6_bitCount_0f7a4_11 ?_
  refine aw_iand C dJ6_bitCount_0f7a4_14 ?_
  refine aw_iload_n C dJ6_bitCount_0f7a4_15 rfl ?_
  refine aw_iconst C (v := 2) (by decide) dJ6_bitCount_0f7a4_16 ?_
  refine aw_iushr C dJ6_bitCount_0f7a4_17 ?_
  refine aw_ldcw C k266 dJ6_bitCount_0f7a4_18 ?_
  refine aw_iand C dJ6_bitCount_0f7a4_21 ?_
  refine aw_iadd C dJ6_bitCount_0f7a4_22 ?_
  refine aw_istore_n C dJ6_bitCount_0f7a4_23 (by decide) ?_
  refine aw_iload_n C dJ6_bitCount_0f7a4_24 rfl ?_
  refine aw_iload_n C dJ6_bitCount_0f7a4_25 rfl ?_
  refine aw_iconst C (v := 4) (by decide) dJ6_bitCount_0f7a4_26 ?_
  refine aw_iushr C dJ6_bitCount_0f7a4_27 ?_
  refine aw_iadd C dJ6_bitCount_0f7a4_28 ?_
  refine aw_ldcw C k267 dJ6_bitCount_0f7a4_29 ?_
  refine aw_iand C dJ6_bitCount_0f7a4_32 ?_
  refine aw_istore_n C dJ6_bitCount_0f7a4_33 (by decide) ?_
  refine aw_iload_n C dJ6_bitCount_0f7a4_34 rfl ?_
  refine aw_iload_n C dJ6_bitCount_0f7a4_35 rfl ?_
  refine aw_bipush C (v := 8) (by decide) dJ6_bitCount_0f7a4_36 ?_
  refine aw_iushr C dJ6_bitCount_0f7a4_38 ?_
  refine aw_iadd C dJ6_bitCount_0f7a4_39 ?_
  refine aw_istore_n C dJ6_bitCount_0f7a4_40 (by decide) ?_
  refine aw_iload_n C dJ6_bitCount_0f7a4_41 rfl ?_
  refine aw_iload_n C dJ6_bitCount_0f7a4_42 rfl ?_
  refine aw_bipush C (v := 16) (by decide) dJ6_bitCount_0f7a4_43 ?_
  refine aw_iushr C dJ6_bitCount_0f7a4_45 ?_
  refine aw_iadd C dJ6_bitCount_0f7a4_46 ?_
  refine aw_istore_n C dJ6_bitCount_0f7a4_47 (by decide) ?_
  refine aw_iload_n C dJ6_bitCount_0f7a4_48 rfl ?_
  refine aw_bipush C (v := 63) (by decide) dJ6_bitCount_0f7a4_49 ?_
  refine aw_iand C dJ6_bitCount_0f7a4_51 ?_
  refine aw_iret C hQe ?_ (by omega) (by omega) dJ6_bitCount_0f7a4_52
  exact ⟨rfl, rfl⟩
set_option maxRecDepth 100000 in
set_option maxHeartbeats 4000000 in
theorem k_X4_size (B : Base s0) {μ : mu} {x : UInt64} (hx : Nn x) : Ct l yX4_size wsX4_size (rmOf 0 0 0 0) s0 D (tyL g) [.double x] μ 0 0 (fun v9 μ' => v9 = some (.double (szF x)) ∧ μ' = μ) := by
  refine Ct.of (cc := cX4_size) (own := RX4) (maxL := 2) (ret := (some .double)) (by decide) rfl rfl (Nat.le_of_ble_eq_true rfl) ?_
  intro p e s m args below meth c Q C hE hnm hQe
  refine aw_dload_n C dX4_size_0 rfl ?_
  refine aw_dconst0 C dX4_size_1 ?_
  refine aw_dcmp C dX4_size_2 ?_
  refine aw_if_ge C (tgt := 11) dX4_size_3 (by decide) (fun c_3 => ?_) (fun c_3 => ?_)
  · refine aw_dload_n C dX4_size_11 rfl ?_
    refine aw_dret C hQe ?_ (by omega) (by omega) dX4_size_12
    exact ⟨by unfold szF; rw [if_neg (fun q => absurd ((kv_ge0 hx d0_nn .g).mp c_3) (by rw [d0_key]; omega))], rfl⟩
  · refine aw_dload_n C dX4_size_6 rfl ?_
    refine aw_dneg C dX4_size_7 ?_
    refine aw_goto C (tgt := 12) dX4_size_8 (by decide) ?_
    refine aw_dret C hQe ?_ (by omega) (by omega) dX4_size_12
    exact ⟨by unfold szF; rw [if_pos (Int.not_le.mp (fun q => c_3 ((kv_ge0 hx d0_nn .g).mpr (by rw [d0_key]; exact q))))], rfl⟩
set_option maxRecDepth 100000 in
set_option maxHeartbeats 4000000 in
theorem k_X3_setOf (B : Base s0) {μ : mu} {a st hh vv : Nat} {q f : Nat → Int32} (h1 : μ a = some (eQu q st hh vv)) (h2 : μ st = some (eI g 12 f)) {x : Int32} : Ct l yX3_setOf wsX3_setOf (rmOf 0 0 0 0) s0 D (tyL g) [.ref a, .int x] μ 0 0 (fun v9 μ' => v9 = some (.int (setN f x 12)) ∧ μ' = μ) := by
  refine Ct.of (cc := cX3_setOf) (own := RX3) (maxL := 4) (ret := (some .int)) (by decide) rfl rfl (Nat.le_of_ble_eq_true rfl) ?_
  intro p e s m args below meth c Q C hE hnm hQe
  have in_RX3 : ∀ w ∈ u_ws RX3 TX3 5, w ∈ wsX3_setOf := by decide +kernel
  have f9 : FL wsX3_setOf RX3 9 5 "ArrowField$Quiver" RX3 TX3 5 2 := ⟨in_RX3, rfl, by decide, by decide +kernel, Or.inl rfl⟩
  refine aw_iconst C (v := 0) (by decide) dX3_setOf_0 ?_
  refine aw_istore_n C dX3_setOf_1 (by decide) ?_
  refine aw_iconst C (v := 0) (by decide) dX3_setOf_2 ?_
  refine aw_istore_n C dX3_setOf_3 (by decide) ?_
  refine aw_lv (lv' := [(0, .ref a), (1, .int x), (2, .int 0), (3, .int 0)]) ⟨rfl, rfl, rfl, rfl, trivial⟩ ?_
  have loop4 : ∀ (n : Nat) (i : Nat) (xi : Int32) (xs : Int32), 12 - i = n → xi = nI i → i ≤ 12 → xs = setN f x i → Aw p l e (rmOf 0 0 0 0) s m args below meth c Q s0.heap.size D 4 μ 0 0 4 [(0, .ref a), (1, .int x), (2, .int xs), (3, .int xi)] [] := by
    intro n
    induction n using Nat.strongRecOn with
    | _ n ih =>
      intro i xi xs hn hx hk hs
      refine aw_iload_n C dX3_setOf_4 rfl ?_
      refine aw_bipush C (v := 12) (by decide) dX3_setOf_5 ?_
      refine aw_icmp_ge C (tgt := 32) dX3_setOf_7 (by decide) (fun c_7 => ?_) (fun c_7 => ?_)
      · refine aw_iload_n C dX3_setOf_32 rfl ?_
        refine aw_iret C hQe ?_ (by omega) (by omega) dX3_setOf_33
        have e12 : i = 12 := by have := ge_of (n := 12) hx (by decide) (by omega) c_7; omega
        exact ⟨by rw [hs, e12], rfl⟩
      · have hi : i < 12 := lt_of (n := 12) hx (by decide) (by omega) c_7
        refine aw_aload_n C dX3_setOf_10 rfl ?_
        refine aw_get C f9 h1 rfl dX3_setOf_11 ?_
        refine aw_iload_n C dX3_setOf_14 rfl ?_
        refine aw_ialdE C h2 hx ⟨hi, by decide⟩ rfl dX3_setOf_15 ?_
        refine aw_iload_n C dX3_setOf_16 rfl ?_
        refine aw_icmp_ne C (tgt := 26) dX3_setOf_17 (by decide) (fun c_17 => ?_) (fun c_17 => ?_)
        · refine aw_iinc C dX3_setOf_26 rfl (by decide) ?_
          refine aw_goto C (tgt := 4) dX3_setOf_29 (by decide) ?_
          refine aw_lv (lv' := [(0, .ref a), (1, .int x), (2, .int xs), (3, .int (xi + Int32.ofInt (1)))]) ⟨rfl, rfl, rfl, rfl, trivial⟩ ?_
          exact ih _ (by omega) (i + 1) (xi + Int32.ofInt (1)) xs rfl (by rw [hx]; exact nI_inc i) (by omega) (by rw [hs]; exact (if_neg c_17).symm)
        · refine aw_iload_n C dX3_setOf_20 rfl ?_
          refine aw_iconst C (v := 1) (by decide) dX3_setOf_21 ?_
          refine aw_iload_n C dX3_setOf_22 rfl ?_
          refine aw_ishl C dX3_setOf_23 ?_
          refine aw_ior C dX3_setOf_24 ?_
          refine aw_istore_n C dX3_setOf_25 (by decide) ?_
          refine aw_iinc C dX3_setOf_26 rfl (by decide) ?_
          refine aw_goto C (tgt := 4) dX3_setOf_29 (by decide) ?_
          refine aw_lv (lv' := [(0, .ref a), (1, .int x), (2, .int (xs ||| (1 <<< (xi &&& 31)))), (3, .int (xi + Int32.ofInt (1)))]) ⟨rfl, rfl, rfl, rfl, trivial⟩ ?_
          exact ih _ (by omega) (i + 1) (xi + Int32.ofInt (1)) (xs ||| (1 <<< (xi &&& 31))) rfl (by rw [hx]; exact nI_inc i) (by omega) (by rw [hs, hx]; exact (if_pos c_17).symm)
  exact loop4 _ 0 0 0 rfl rfl (by decide) rfl
set_option maxRecDepth 100000 in
set_option maxHeartbeats 4000000 in
theorem k_X3_bringBack (B : Base s0) {μ : mu} {a st hh vv : Nat} {q f : Nat → Int32} (h1 : μ a = some (eQu q st hh vv)) (h2 : μ st = some (eI g 12 f)) {x : Int32} (nas : a ≠ st) : Ct l yX3_bringBack wsX3_bringBack (rmOf 0 0 0 0) s0 D (tyL g) [.ref a, .int x] μ 0 0 (fun v9 μ' => v9 = some (.int (nI (bbN f x 12))) ∧ μ' = mp μ st (eI g 12 (bbF f x 12))) := by
  refine Ct.of (cc := cX3_bringBack) (own := RX3) (maxL := 4) (ret := (some .int)) (by decide) rfl rfl (Nat.le_of_ble_eq_true rfl) ?_
  intro p e s m args below meth c Q C hE hnm hQe
  have in_RX3 : ∀ w ∈ u_ws RX3 TX3 5, w ∈ wsX3_bringBack := by decide +kernel
  have f9 : FL wsX3_bringBack RX3 9 5 "ArrowField$Quiver" RX3 TX3 5 2 := ⟨in_RX3, rfl, by decide, by decide +kernel, Or.inl rfl⟩
  refine aw_iconst C (v := 0) (by decide) dX3_bringBack_0 ?_
  refine aw_istore_n C dX3_bringBack_1 (by decide) ?_
  refine aw_iconst C (v := 0) (by decide) dX3_bringBack_2 ?_
  refine aw_istore_n C dX3_bringBack_3 (by decide) ?_
  refine aw_mu (μ' := mp μ st (eI g 12 (bbF f x 0))) (by rw [bbF_0]; exact (mp_id h2).symm) ?_
  refine aw_lv (lv' := [(0, .ref a), (1, .int x), (2, .int 0), (3, .int 0)]) ⟨rfl, rfl, rfl, rfl, trivial⟩ ?_
  have loop4 : ∀ (n : Nat) (i : Nat) (xi : Int32) (xc : Int32), 12 - i = n → xi = nI i → i ≤ 12 → xc = nI (bbN f x i) → Aw p l e (rmOf 0 0 0 0) s m args below meth c Q s0.heap.size D 4 (mp μ st (eI g 12 (bbF f x i))) 0 0 4 [(0, .ref a), (1, .int x), (2, .int xc), (3, .int xi)] [] := by
    intro n
    induction n using Nat.strongRecOn with
    | _ n ih =>
      intro i xi xc hn hx hk hs
      refine aw_iload_n C dX3_bringBack_4 rfl ?_
      refine aw_bipush C (v := 12) (by decide) dX3_bringBack_5 ?_
      refine aw_icmp_ge C (tgt := 36) dX3_bringBack_7 (by decide) (fun c_7 => ?_) (fun c_7 => ?_)
      · refine aw_iload_n C dX3_bringBack_36 rfl ?_
        refine aw_iret C hQe ?_ (by omega) (by omega) dX3_bringBack_37
        have e12 : i = 12 := by have := ge_of (n := 12) hx (by decide) (by omega) c_7; omega
        exact ⟨by rw [hs, e12], by rw [e12]⟩
      · have hi : i < 12 := lt_of (n := 12) hx (by decide) (by omega) c_7
        refine aw_aload_n C dX3_bringBack_10 rfl ?_
        refine aw_get C f9 (mp_k h1 nas) rfl dX3_bringBack_11 ?_
        refine aw_iload_n C dX3_bringBack_14 rfl ?_
        refine aw_ialdE C mp_s hx ⟨hi, by decide⟩ (bbF_at f x i) dX3_bringBack_15 ?_
        refine aw_iload_n C dX3_bringBack_16 rfl ?_
        refine aw_icmp_ne C (tgt := 30) dX3_bringBack_17 (by decide) (fun c_17 => ?_) (fun c_17 => ?_)
        · refine aw_iinc C dX3_bringBack_30 rfl (by decide) ?_
          refine aw_goto C (tgt := 4) dX3_bringBack_33 (by decide) ?_
          refine aw_mu (μ' := mp μ st (eI g 12 (bbF f x (i + 1)))) (by rw [← bbF_n c_17]) ?_
          refine aw_lv (lv' := [(0, .ref a), (1, .int x), (2, .int xc), (3, .int (xi + Int32.ofInt (1)))]) ⟨rfl, rfl, rfl, rfl, trivial⟩ ?_
          exact ih _ (by omega) (i + 1) (xi + Int32.ofInt (1)) xc rfl (by rw [hx]; exact nI_inc i) (by omega) (by rw [hs, bbN_n c_17])
        · refine aw_aload_n C dX3_bringBack_20 rfl ?_
          refine aw_get C f9 (mp_k h1 nas) rfl dX3_bringBack_21 ?_
          refine aw_iload_n C dX3_bringBack_24 rfl ?_
          refine aw_iconst C (v := 0) (by decide) dX3_bringBack_25 ?_
          refine aw_iastE C mp_s hx ⟨hi, by decide⟩ dX3_bringBack_26 ?_
          refine aw_mu mp_mp ?_
          refine aw_iinc C dX3_bringBack_27 rfl (by decide) ?_
          refine aw_iinc C dX3_bringBack_30 rfl (by decide) ?_
          refine aw_goto C (tgt := 4) dX3_bringBack_33 (by decide) ?_
          refine aw_mu (μ' := mp μ st (eI g 12 (bbF f x (i + 1)))) (by rw [bbF_y c_17]) ?_
          refine aw_lv (lv' := [(0, .ref a), (1, .int x), (2, .int (xc + Int32.ofInt (1))), (3, .int (xi + Int32.ofInt (1)))]) ⟨rfl, rfl, rfl, rfl, trivial⟩ ?_
          exact ih _ (by omega) (i + 1) (xi + Int32.ofInt (1)) (xc + Int32.ofInt (1)) rfl (by rw [hx]; exact nI_inc i) (by omega) (by rw [hs, bbN_y c_17]; exact nI_inc _)
  exact loop4 _ 0 0 0 rfl rfl (by decide) rfl
set_option maxRecDepth 100000 in
set_option maxHeartbeats 4000000 in
theorem k_X3_firstHitBy (B : Base s0) {μ : mu} {a st hh vv : Nat} {q f : Nat → Int32} (h1 : μ a = some (eQu q st hh vv)) (h2 : μ st = some (eI g 12 f)) {b : Nat} {h v : UInt64} {H V : Nat → UInt64} (h3 : μ hh = some (eD g 12 H)) (h4 : μ vv = some (eD g 12 V)) (h5 : μ b = some (eFl h v)) (bh : Eb 1420 h) (bv : Eb 1420 v) (bH : ∀ i, i < 12 → Eb 1420 (H i)) (bV : ∀ i, i < 12 → Eb 1420 (V i)) : Ct l yX3_firstHitBy wsX3_firstHitBy (rmOf 1 0 0 60) s0 D (tyL g) [.ref a, .ref b] μ 0 0 (fun v9 μ' => v9 = some (.int (fstN (hitP h v f H V) 12 0)) ∧ μ' = μ) := by
  refine Ct.of (cc := cX3_firstHitBy) (own := RX3) (maxL := 3) (ret := (some .int)) (by decide) rfl rfl (Nat.le_of_ble_eq_true rfl) ?_
  intro p e s m args below meth c Q C hE hnm hQe
  have in_RX3 : ∀ w ∈ u_ws RX3 TX3 5, w ∈ wsX3_firstHitBy := by decide +kernel
  have in_RX1 : ∀ w ∈ u_ws RX1 TX1 2, w ∈ wsX3_firstHitBy := by decide +kernel
  have f9 : FL wsX3_firstHitBy RX3 9 5 "ArrowField$Quiver" RX3 TX3 5 2 := ⟨in_RX3, rfl, by decide, by decide +kernel, Or.inl rfl⟩
  have f22 : FL wsX3_firstHitBy RX3 22 3 "ArrowField$Flight" RX1 TX1 2 0 := ⟨in_RX1, rfl, by decide, by decide +kernel, Or.inl rfl⟩
  have f15 : FL wsX3_firstHitBy RX3 15 5 "ArrowField$Quiver" RX3 TX3 5 3 := ⟨in_RX3, rfl, by decide, by decide +kernel, Or.inl rfl⟩
  have k31 : Cond.constantDouble RX3 31 (4580160821035794432) ∈ wsX3_firstHitBy := by decide +kernel
  have f33 : FL wsX3_firstHitBy RX3 33 3 "ArrowField$Flight" RX1 TX1 2 1 := ⟨in_RX1, rfl, by decide, by decide +kernel, Or.inl rfl⟩
  have f19 : FL wsX3_firstHitBy RX3 19 5 "ArrowField$Quiver" RX3 TX3 5 4 := ⟨in_RX3, rfl, by decide, by decide +kernel, Or.inl rfl⟩
  refine aw_iconst C (v := 0) (by decide) dX3_firstHitBy_0 ?_
  refine aw_istore_n C dX3_firstHitBy_1 (by decide) ?_
  refine aw_lv (lv' := [(0, .ref a), (1, .ref b), (2, .int 0)]) ⟨rfl, rfl, rfl, trivial⟩ ?_
  have loop2 : ∀ (n : Nat) (i : Nat) (xi : Int32), 12 - i = n → xi = nI i → i ≤ 12 → fstN (hitP h v f H V) (12 - i) i = fstN (hitP h v f H V) 12 0 → Aw p l e (rmOf 1 0 0 60) s m args below meth c Q s0.heap.size D 3 μ 0 0 2 [(0, .ref a), (1, .ref b), (2, .int xi)] [] := by
    intro n
    induction n using Nat.strongRecOn with
    | _ n ih =>
      intro i xi hn hx hk hs
      refine aw_iload_n C dX3_firstHitBy_2 rfl ?_
      refine aw_bipush C (v := 12) (by decide) dX3_firstHitBy_3 ?_
      refine aw_icmp_ge C (tgt := 68) dX3_firstHitBy_5 (by decide) (fun c_5 => ?_) (fun c_5 => ?_)
      · refine aw_iconst C (v := (-1)) (by decide) dX3_firstHitBy_68 ?_
        refine aw_iret C hQe ?_ (by omega) (by omega) dX3_firstHitBy_69
        have e12 : i = 12 := by have := ge_of (n := 12) hx (by decide) (by omega) c_5; omega
        exact ⟨by rw [← hs, e12]; rfl, rfl⟩
      · have hi : i < 12 := lt_of (n := 12) hx (by decide) (by omega) c_5
        have e1 := bh.sub (bH i hi) (by decide)
        have e2 := bv.sub (bV i hi) (by decide)
        have n1 := e1.nn (by decide)
        have n2 := e2.nn (by decide)
        refine aw_aload_n C dX3_firstHitBy_8 rfl ?_
        refine aw_get C f9 h1 rfl dX3_firstHitBy_9 ?_
        refine aw_iload_n C dX3_firstHitBy_12 rfl ?_
        refine aw_ialdE C h2 hx ⟨hi, by decide⟩ rfl dX3_firstHitBy_13 ?_
        refine aw_iconst C (v := 1) (by decide) dX3_firstHitBy_14 ?_
        refine aw_icmp_ne C (tgt := 62) dX3_firstHitBy_15 (by decide) (fun c_15 => ?_) (fun c_15 => ?_)
        · refine aw_iinc C dX3_firstHitBy_62 rfl (by decide) ?_
          refine aw_goto C (tgt := 2) dX3_firstHitBy_65 (by decide) ?_
          have hs9 : fstN (hitP h v f H V) (12 - (i + 1)) (i + 1) = fstN (hitP h v f H V) 12 0 := by rw [← hs, show 12 - i = (12 - (i + 1)) + 1 by omega, fstN_n (hitP_n (Or.inl c_15))]
          refine aw_lv (lv' := [(0, .ref a), (1, .ref b), (2, .int (xi + Int32.ofInt (1)))]) ⟨rfl, rfl, rfl, trivial⟩ ?_
          exact ih _ (by omega) (i + 1) (xi + Int32.ofInt (1)) rfl (by rw [hx]; exact nI_inc i) (by omega) hs9
        · refine aw_aload_n C dX3_firstHitBy_18 rfl ?_
          refine aw_get C f22 h5 rfl dX3_firstHitBy_19 ?_
          refine aw_aload_n C dX3_firstHitBy_22 rfl ?_
          refine aw_get C f15 h1 rfl dX3_firstHitBy_23 ?_
          refine aw_iload_n C dX3_firstHitBy_26 rfl ?_
          refine aw_daldE C h3 hx ⟨hi, by decide⟩ rfl dX3_firstHitBy_27 ?_
          refine aw_dsub C (e1.n (by decide)) dX3_firstHitBy_28 ?_
          refine aw_callSN (n := 1) C hE (k_X4_size (x := FP.dsub h (H i)) B n1) ggX3_firstHitBy_X4_size (by decide +kernel) B.mnRX3_27 (by decide +kernel) rfl ⟨rfl, rfl⟩ (by decide +kernel) ⟨by decide, by decide⟩ rfl rfl (Nat.le_of_ble_eq_true rfl) dX3_firstHitBy_29 ⟨by decide, by decide⟩ (fun v μ' hp => ?_)
          obtain ⟨rfl, hm9⟩ := hp
          replace hm9 := hm9.symm
          subst hm9
          refine aw_st (st' := [.double (szF (FP.dsub h (H i)))]) rfl ?_
          refine aw_ldc2d C k31 dX3_firstHitBy_32 ?_
          refine aw_dcmp C dX3_firstHitBy_35 ?_
          refine aw_if_ge C (tgt := 62) dX3_firstHitBy_36 (by decide) (fun c_36 => ?_) (fun c_36 => ?_)
          · refine aw_iinc C dX3_firstHitBy_62 rfl (by decide) ?_
            refine aw_goto C (tgt := 2) dX3_firstHitBy_65 (by decide) ?_
            have hs9 : fstN (hitP h v f H V) (12 - (i + 1)) (i + 1) = fstN (hitP h v f H V) 12 0 := by rw [← hs, show 12 - i = (12 - (i + 1)) + 1 by omega, fstN_n (hitP_n (Or.inr (Or.inl ((near_iff n1).mp c_36))))]
            refine aw_lv (lv' := [(0, .ref a), (1, .ref b), (2, .int (xi + Int32.ofInt (1)))]) ⟨rfl, rfl, rfl, trivial⟩ ?_
            exact ih _ (by omega) (i + 1) (xi + Int32.ofInt (1)) rfl (by rw [hx]; exact nI_inc i) (by omega) hs9
          · refine aw_aload_n C dX3_firstHitBy_39 rfl ?_
            refine aw_get C f33 h5 rfl dX3_firstHitBy_40 ?_
            refine aw_aload_n C dX3_firstHitBy_43 rfl ?_
            refine aw_get C f19 h1 rfl dX3_firstHitBy_44 ?_
            refine aw_iload_n C dX3_firstHitBy_47 rfl ?_
            refine aw_daldE C h4 hx ⟨hi, by decide⟩ rfl dX3_firstHitBy_48 ?_
            refine aw_dsub C (e2.n (by decide)) dX3_firstHitBy_49 ?_
            refine aw_callSN (n := 1) C hE (k_X4_size (x := FP.dsub v (V i)) B n2) ggX3_firstHitBy_X4_size (by decide +kernel) B.mnRX3_27 (by decide +kernel) rfl ⟨rfl, rfl⟩ (by decide +kernel) ⟨by decide, by decide⟩ rfl rfl (Nat.le_of_ble_eq_true rfl) dX3_firstHitBy_50 ⟨by decide, by decide⟩ (fun v μ' hp => ?_)
            obtain ⟨rfl, hm9⟩ := hp
            replace hm9 := hm9.symm
            subst hm9
            refine aw_st (st' := [.double (szF (FP.dsub v (V i)))]) rfl ?_
            refine aw_ldc2d C k31 dX3_firstHitBy_53 ?_
            refine aw_dcmp C dX3_firstHitBy_56 ?_
            refine aw_if_ge C (tgt := 62) dX3_firstHitBy_57 (by decide) (fun c_57 => ?_) (fun c_57 => ?_)
            · refine aw_iinc C dX3_firstHitBy_62 rfl (by decide) ?_
              refine aw_goto C (tgt := 2) dX3_firstHitBy_65 (by decide) ?_
              have hs9 : fstN (hitP h v f H V) (12 - (i + 1)) (i + 1) = fstN (hitP h v f H V) 12 0 := by rw [← hs, show 12 - i = (12 - (i + 1)) + 1 by omega, fstN_n (hitP_n (Or.inr (Or.inr ((near_iff n2).mp c_57))))]
              refine aw_lv (lv' := [(0, .ref a), (1, .ref b), (2, .int (xi + Int32.ofInt (1)))]) ⟨rfl, rfl, rfl, trivial⟩ ?_
              exact ih _ (by omega) (i + 1) (xi + Int32.ofInt (1)) rfl (by rw [hx]; exact nI_inc i) (by omega) hs9
            · refine aw_iload_n C dX3_firstHitBy_60 rfl ?_
              refine aw_iret C hQe ?_ (by omega) (by omega) dX3_firstHitBy_61
              exact ⟨by rw [← hs, show 12 - i = (12 - (i + 1)) + 1 by omega, fstN_y (hitP_y c_15 (by rw [near_iff n1, Classical.not_not] at c_36; exact c_36) (by rw [near_iff n2, Classical.not_not] at c_57; exact c_57)), hx], rfl⟩
  exact loop2 _ 0 0 rfl rfl (by decide) rfl
set_option maxRecDepth 100000 in
set_option maxHeartbeats 4000000 in
theorem k_X3_land (B : Base s0) {μ : mu} {a st hh vv : Nat} {q f : Nat → Int32} (h1 : μ a = some (eQu q st hh vv)) (h2 : μ st = some (eI g 12 f)) {b j : Nat} {h v : UInt64} {H V : Nat → UInt64} {x sc : Int32} (h3 : μ hh = some (eD g 12 H)) (h4 : μ vv = some (eD g 12 V)) (h5 : μ b = some (eFl h v)) (hx : x = nI j) (hj : j < 12) (n1 : hh ≠ vv) : Ct l yX3_land wsX3_land (rmOf 0 0 0 0) s0 D (tyL g) [.ref a, .int x, .ref b, .int sc] μ 0 0 (fun v9 μ' => v9 = none ∧ μ' = mp (mp (mp μ hh (eD g 12 (vf_upd H j h))) vv (eD g 12 (vf_upd V j v))) st (eI g 12 (upd f j (if sc = 0 then 2 else 1)))) := by
  refine Ct.of (cc := cX3_land) (own := RX3) (maxL := 4) (ret := none) (by decide) rfl rfl (Nat.le_of_ble_eq_true rfl) ?_
  intro p e s m args below meth c Q C hE hnm hQe
  have in_RX3 : ∀ w ∈ u_ws RX3 TX3 5, w ∈ wsX3_land := by decide +kernel
  have in_RX1 : ∀ w ∈ u_ws RX1 TX1 2, w ∈ wsX3_land := by decide +kernel
  have f15 : FL wsX3_land RX3 15 5 "ArrowField$Quiver" RX3 TX3 5 3 := ⟨in_RX3, rfl, by decide, by decide +kernel, Or.inl rfl⟩
  have f22 : FL wsX3_land RX3 22 3 "ArrowField$Flight" RX1 TX1 2 0 := ⟨in_RX1, rfl, by decide, by decide +kernel, Or.inl rfl⟩
  have f19 : FL wsX3_land RX3 19 5 "ArrowField$Quiver" RX3 TX3 5 4 := ⟨in_RX3, rfl, by decide, by decide +kernel, Or.inl rfl⟩
  have f33 : FL wsX3_land RX3 33 3 "ArrowField$Flight" RX1 TX1 2 1 := ⟨in_RX1, rfl, by decide, by decide +kernel, Or.inl rfl⟩
  have f9 : FL wsX3_land RX3 9 5 "ArrowField$Quiver" RX3 TX3 5 2 := ⟨in_RX3, rfl, by decide, by decide +kernel, Or.inl rfl⟩
  have n2 : a ≠ hh := tag_ne h1 h3 rfl
  have n3 : a ≠ vv := tag_ne h1 h4 rfl
  have n4 : b ≠ hh := tag_ne h5 h3 rfl
  have n5 : b ≠ vv := tag_ne h5 h4 rfl
  have n6 : st ≠ hh := tag_ne h2 h3 rfl
  have n7 : st ≠ vv := tag_ne h2 h4 rfl
  have n8 : a ≠ st := tag_ne h1 h2 rfl
  refine aw_aload_n C dX3_land_0 rfl ?_
  refine aw_get C f15 h1 rfl dX3_land_1 ?_
  refine aw_iload_n C dX3_land_4 rfl ?_
  refine aw_aload_n C dX3_land_5 rfl ?_
  refine aw_get C f22 h5 rfl dX3_land_6 ?_
  refine aw_dastE C h3 hx ⟨hj, by decide⟩ dX3_land_9 ?_
  refine aw_aload_n C dX3_land_10 rfl ?_
  refine aw_get C f19 (mp_k h1 n2) rfl dX3_land_11 ?_
  refine aw_iload_n C dX3_land_14 rfl ?_
  refine aw_aload_n C dX3_land_15 rfl ?_
  refine aw_get C f33 (mp_k h5 n4) rfl dX3_land_16 ?_
  refine aw_dastE C (mp_k h4 (Ne.symm n1)) hx ⟨hj, by decide⟩ dX3_land_19 ?_
  refine aw_aload_n C dX3_land_20 rfl ?_
  refine aw_get C f9 (mp_k (mp_k h1 n2) n3) rfl dX3_land_21 ?_
  refine aw_iload_n C dX3_land_24 rfl ?_
  refine aw_iload_n C dX3_land_25 rfl ?_
  refine aw_if_ne C (tgt := 33) dX3_land_26 (by decide) (fun c_26 => ?_) (fun c_26 => ?_)
  · refine aw_iconst C (v := 1) (by decide) dX3_land_33 ?_
    refine aw_iastE C (mp_k (mp_k h2 n6) n7) hx ⟨hj, by decide⟩ dX3_land_34 ?_
    refine aw_vret C hQe ?_ (by omega) (by omega) dX3_land_35
    exact ⟨rfl, by rw [if_neg c_26]⟩
  · refine aw_iconst C (v := 2) (by decide) dX3_land_29 ?_
    refine aw_goto C (tgt := 34) dX3_land_30 (by decide) ?_
    refine aw_iastE C (mp_k (mp_k h2 n6) n7) hx ⟨hj, by decide⟩ dX3_land_34 ?_
    refine aw_vret C hQe ?_ (by omega) (by omega) dX3_land_35
    exact ⟨rfl, by rw [if_pos c_26]⟩
end QUIV
