/-! ===== ArrowField: the helpers ===== -/
section KL
variable {l : Launch} {s0 : State} {D : va_G} {g : Nat → ClassId}
set_option maxRecDepth 100000 in
set_option maxHeartbeats 4000000 in
theorem k_X4_needBetween (hl9 : l.stackTraces = false) (B : Base s0) {μ : mu} {x lo hi : Int32} : Cy l yX4_needBetween wsX4_needBetween (rmOf 6 1 6 90) s0 D (tyL g) [.int x, .int lo, .int hi] μ 1 6 (fun v μ' => btw x lo hi = true ∧ v = none ∧ μ' = μ) (fun E μ' => E = IAE ∧ btw x lo hi = false ∧ μ' = μ) := by
  refine Cy.of (cc := cX4_needBetween) (own := RX4) (maxL := 3) (ret := none) (by decide) rfl rfl (Nat.le_of_ble_eq_true rfl) ?_
  intro p e s m args below meth c Q C hE hnt hQ hQe
  refine aw_iload_n C dX4_needBetween_0 rfl ?_
  refine aw_iload_n C dX4_needBetween_1 rfl ?_
  refine aw_icmp_lt C (tgt := 10) dX4_needBetween_2 (by decide) (fun c_2 => ?_) (fun c_2 => ?_)
  · refine aw_throwW C hE hQ hnt hl9 B.tz (cls := IAE) (text := "a number is out of its range") (ik := 176) (is := 302) (ic := 180) (by decide) (by decide +kernel) (by decide +kernel) B.str302 (by decide +kernel) xb180 B.xIA xo180 dX4_needBetween_10 dX4_needBetween_13 dX4_needBetween_14 dX4_needBetween_17 dX4_needBetween_20 (by decide) (by decide) (by decide) (by decide) (by decide) (by decide) ?_
    exact ⟨rfl, btw_n1 c_2, rfl⟩
  · refine aw_iload_n C dX4_needBetween_5 rfl ?_
    refine aw_iload_n C dX4_needBetween_6 rfl ?_
    refine aw_icmp_le C (tgt := 21) dX4_needBetween_7 (by decide) (fun c_7 => ?_) (fun c_7 => ?_)
    · refine aw_vret C hQe ?_ (by omega) (by omega) dX4_needBetween_21
      exact ⟨btw_y c_2 c_7, rfl, rfl⟩
    · refine aw_throwW C hE hQ hnt hl9 B.tz (cls := IAE) (text := "a number is out of its range") (ik := 176) (is := 302) (ic := 180) (by decide) (by decide +kernel) (by decide +kernel) B.str302 (by decide +kernel) xb180 B.xIA xo180 dX4_needBetween_10 dX4_needBetween_13 dX4_needBetween_14 dX4_needBetween_17 dX4_needBetween_20 (by decide) (by decide) (by decide) (by decide) (by decide) (by decide) ?_
      exact ⟨rfl, btw_n2 c_7, rfl⟩
set_option maxRecDepth 100000 in
set_option maxHeartbeats 4000000 in
theorem k_X4_archerNumbered (hl9 : l.stackTraces = false) (B : Base s0) {μ : mu} {L : Nat → Nat → Nat} {S : SS} (h0 : RX g L S μ) (hI : Iv S) {x : Int32} : Cy l yX4_archerNumbered wsX4_archerNumbered (rmOf 6 1 6 90) s0 D (tyL g) [.ref (L 0 0), .int x] μ 1 6 (fun v μ' => inb x S.nA = true ∧ (∃ j, j < S.nA ∧ x = nI j ∧ v = some (.ref (L 5 j))) ∧ μ' = μ) (fun E μ' => E = IOB ∧ inb x S.nA = false ∧ μ' = μ) := by
  refine Cy.of (cc := cX4_archerNumbered) (own := RX4) (maxL := 2) (ret := (some (.object "ArrowField$Archer"))) (by decide) rfl rfl (Nat.le_of_ble_eq_true rfl) ?_
  intro p e s m args below meth c Q C hE hnt hQ hQe
  obtain ⟨fh, fv, hR⟩ := h0
  have in_RX4 : ∀ w ∈ u_ws RX4 TX4 16, w ∈ wsX4_archerNumbered := by decide +kernel
  have f51 : FL wsX4_archerNumbered RX4 51 6 "ArrowField" RX4 TX4 16 2 := ⟨in_RX4, rfl, by decide, by decide +kernel, Or.inl rfl⟩
  have f11 : FL wsX4_archerNumbered RX4 11 6 "ArrowField" RX4 TX4 16 0 := ⟨in_RX4, rfl, by decide, by decide +kernel, Or.inl rfl⟩
  refine aw_iload_n C dX4_archerNumbered_0 rfl ?_
  refine aw_if_lt C (tgt := 12) dX4_archerNumbered_1 (by decide) (fun c_1 => ?_) (fun c_1 => ?_)
  · refine aw_throwW C hE hQ hnt hl9 B.tz (cls := IOB) (text := "there is no such archer") (ik := 304) (is := 306) (ic := 308) (by decide) (by decide +kernel) (by decide +kernel) B.str306 (by decide +kernel) xb308 B.xIO xo308 dX4_archerNumbered_12 dX4_archerNumbered_15 dX4_archerNumbered_16 dX4_archerNumbered_19 dX4_archerNumbered_22 (by decide) (by decide) (by decide) (by decide) (by decide) (by decide) ?_
    exact ⟨rfl, inb_n1 c_1, rfl⟩
  · refine aw_iload_n C dX4_archerNumbered_4 rfl ?_
    refine aw_aload_n C dX4_archerNumbered_5 rfl ?_
    refine aw_get C f51 hR.mn rfl dX4_archerNumbered_6 ?_
    refine aw_icmp_lt C (tgt := 23) dX4_archerNumbered_9 (by decide) (fun c_9 => ?_) (fun c_9 => ?_)
    · have hb : inb x S.nA = true := inb_y c_1 (by rw [hI.1.1] at c_9; exact Int32.not_le.mpr c_9)
      obtain ⟨j, hj, rfl⟩ := inb_of hb (by have := hI.1.2.1; omega)
      have hj6 : j < 6 := by have := hI.1.2.1; omega
      refine aw_aload_n C dX4_archerNumbered_23 rfl ?_
      refine aw_get C f11 hR.mn rfl dX4_archerNumbered_24 ?_
      refine aw_iload_n C dX4_archerNumbered_27 rfl ?_
      refine aw_aaldE C (t0 := 3) rfl hR.aA rfl ⟨hj6, by decide⟩ rfl dX4_archerNumbered_28 ?_
      refine aw_aret C (Or.inl ⟨_, rfl⟩) hQe ?_ (by omega) (by omega) dX4_archerNumbered_29
      exact ⟨hb, ⟨j, hj, rfl, rfl⟩, rfl⟩
    · refine aw_throwW C hE hQ hnt hl9 B.tz (cls := IOB) (text := "there is no such archer") (ik := 304) (is := 306) (ic := 308) (by decide) (by decide +kernel) (by decide +kernel) B.str306 (by decide +kernel) xb308 B.xIO xo308 dX4_archerNumbered_12 dX4_archerNumbered_15 dX4_archerNumbered_16 dX4_archerNumbered_19 dX4_archerNumbered_22 (by decide) (by decide) (by decide) (by decide) (by decide) (by decide) ?_
      exact ⟨rfl, inb_n2 (by rw [Int32.not_lt] at c_9; rwa [hI.1.1] at c_9), rfl⟩
set_option maxRecDepth 100000 in
set_option maxHeartbeats 4000000 in
theorem k_X4_needQuiver (hl9 : l.stackTraces = false) (B : Base s0) {μ : mu} {L : Nat → Nat → Nat} {S : SS} (h0 : RX g L S μ) (hI : Iv S) {x : Int32} : Cy l yX4_needQuiver wsX4_needQuiver (rmOf 6 1 6 90) s0 D (tyL g) [.ref (L 0 0), .int x] μ 1 6 (fun v μ' => inb x S.nQ = true ∧ v = none ∧ μ' = μ) (fun E μ' => E = IOB ∧ inb x S.nQ = false ∧ μ' = μ) := by
  refine Cy.of (cc := cX4_needQuiver) (own := RX4) (maxL := 2) (ret := none) (by decide) rfl rfl (Nat.le_of_ble_eq_true rfl) ?_
  intro p e s m args below meth c Q C hE hnt hQ hQe
  obtain ⟨fh, fv, hR⟩ := h0
  have in_RX4 : ∀ w ∈ u_ws RX4 TX4 16, w ∈ wsX4_needQuiver := by decide +kernel
  have f67 : FL wsX4_needQuiver RX4 67 6 "ArrowField" RX4 TX4 16 3 := ⟨in_RX4, rfl, by decide, by decide +kernel, Or.inl rfl⟩
  refine aw_iload_n C dX4_needQuiver_0 rfl ?_
  refine aw_if_lt C (tgt := 12) dX4_needQuiver_1 (by decide) (fun c_1 => ?_) (fun c_1 => ?_)
  · refine aw_throwW C hE hQ hnt hl9 B.tz (cls := IOB) (text := "there is no such quiver") (ik := 304) (is := 309) (ic := 308) (by decide) (by decide +kernel) (by decide +kernel) B.str309 (by decide +kernel) xb308 B.xIO xo308 dX4_needQuiver_12 dX4_needQuiver_15 dX4_needQuiver_16 dX4_needQuiver_19 dX4_needQuiver_22 (by decide) (by decide) (by decide) (by decide) (by decide) (by decide) ?_
    exact ⟨rfl, inb_n1 c_1, rfl⟩
  · refine aw_iload_n C dX4_needQuiver_4 rfl ?_
    refine aw_aload_n C dX4_needQuiver_5 rfl ?_
    refine aw_get C f67 hR.mn rfl dX4_needQuiver_6 ?_
    refine aw_icmp_lt C (tgt := 23) dX4_needQuiver_9 (by decide) (fun c_9 => ?_) (fun c_9 => ?_)
    · refine aw_vret C hQe ?_ (by omega) (by omega) dX4_needQuiver_23
      exact ⟨inb_y c_1 (by rw [hI.1.2.2.1] at c_9; exact Int32.not_le.mpr c_9), rfl, rfl⟩
    · refine aw_throwW C hE hQ hnt hl9 B.tz (cls := IOB) (text := "there is no such quiver") (ik := 304) (is := 309) (ic := 308) (by decide) (by decide +kernel) (by decide +kernel) B.str309 (by decide +kernel) xb308 B.xIO xo308 dX4_needQuiver_12 dX4_needQuiver_15 dX4_needQuiver_16 dX4_needQuiver_19 dX4_needQuiver_22 (by decide) (by decide) (by decide) (by decide) (by decide) (by decide) ?_
      exact ⟨rfl, inb_n2 (by rw [Int32.not_lt] at c_9; rwa [hI.1.2.2.1] at c_9), rfl⟩
set_option maxRecDepth 100000 in
set_option maxHeartbeats 4000000 in
theorem k_X4_needArrow (hl9 : l.stackTraces = false) (B : Base s0) {μ : mu} {x : Int32} : Cy l yX4_needArrow wsX4_needArrow (rmOf 6 1 6 90) s0 D (tyL g) [.int x] μ 1 6 (fun v μ' => inb x 12 = true ∧ v = none ∧ μ' = μ) (fun E μ' => E = IOB ∧ inb x 12 = false ∧ μ' = μ) := by
  refine Cy.of (cc := cX4_needArrow) (own := RX4) (maxL := 1) (ret := none) (by decide) rfl rfl (Nat.le_of_ble_eq_true rfl) ?_
  intro p e s m args below meth c Q C hE hnt hQ hQe
  refine aw_iload_n C dX4_needArrow_0 rfl ?_
  refine aw_if_lt C (tgt := 10) dX4_needArrow_1 (by decide) (fun c_1 => ?_) (fun c_1 => ?_)
  · refine aw_throwW C hE hQ hnt hl9 B.tz (cls := IOB) (text := "there is no such arrow") (ik := 304) (is := 311) (ic := 308) (by decide) (by decide +kernel) (by decide +kernel) B.str311 (by decide +kernel) xb308 B.xIO xo308 dX4_needArrow_10 dX4_needArrow_13 dX4_needArrow_14 dX4_needArrow_17 dX4_needArrow_20 (by decide) (by decide) (by decide) (by decide) (by decide) (by decide) ?_
    exact ⟨rfl, inb_n1 c_1, rfl⟩
  · refine aw_iload_n C dX4_needArrow_4 rfl ?_
    refine aw_bipush C (v := 12) (by decide) dX4_needArrow_5 ?_
    refine aw_icmp_lt C (tgt := 21) dX4_needArrow_7 (by decide) (fun c_7 => ?_) (fun c_7 => ?_)
    · refine aw_vret C hQe ?_ (by omega) (by omega) dX4_needArrow_21
      exact ⟨inb_y c_1 (Int32.not_le.mpr c_7), rfl, rfl⟩
    · refine aw_throwW C hE hQ hnt hl9 B.tz (cls := IOB) (text := "there is no such arrow") (ik := 304) (is := 311) (ic := 308) (by decide) (by decide +kernel) (by decide +kernel) B.str311 (by decide +kernel) xb308 B.xIO xo308 dX4_needArrow_10 dX4_needArrow_13 dX4_needArrow_14 dX4_needArrow_17 dX4_needArrow_20 (by decide) (by decide) (by decide) (by decide) (by decide) (by decide) ?_
      exact ⟨rfl, inb_n2 (Int32.not_lt.mp c_7), rfl⟩
set_option maxRecDepth 100000 in
set_option maxHeartbeats 4000000 in
theorem k_X4_quiverOf (hl9 : l.stackTraces = false) (B : Base s0) {μ : mu} {L : Nat → Nat → Nat} {S : SS} (h0 : RX g L S μ) (hI : Iv S) {j : Nat} (hj : j < S.nA) : Cy l yX4_quiverOf wsX4_quiverOf (rmOf 6 1 6 90) s0 D (tyL g) [.ref (L 0 0), .ref (L 5 j)] μ 1 6 (fun v μ' => (∃ n, n < S.nQ ∧ S.A j 5 = nI n ∧ v = some (.ref (L 6 n))) ∧ μ' = μ) (fun E μ' => E = ISE ∧ S.A j 5 = -1 ∧ μ' = μ) := by
  refine Cy.of (cc := cX4_quiverOf) (own := RX4) (maxL := 2) (ret := (some (.object "ArrowField$Quiver"))) (by decide) rfl rfl (Nat.le_of_ble_eq_true rfl) ?_
  intro p e s m args below meth c Q C hE hnt hQ hQe
  obtain ⟨fh, fv, hR⟩ := h0
  have in_RX0 : ∀ w ∈ u_ws RX0 TX0 12, w ∈ wsX4_quiverOf := by decide +kernel
  have in_RX4 : ∀ w ∈ u_ws RX4 TX4 16, w ∈ wsX4_quiverOf := by decide +kernel
  have f96 : FL wsX4_quiverOf RX4 96 2 "ArrowField$Archer" RX0 TX0 12 5 := ⟨in_RX0, rfl, by decide, by decide +kernel, Or.inl rfl⟩
  have f17 : FL wsX4_quiverOf RX4 17 6 "ArrowField" RX4 TX4 16 1 := ⟨in_RX4, rfl, by decide, by decide +kernel, Or.inl rfl⟩
  have hj6 : j < 6 := by have := hI.1.2.1; omega
  refine aw_aload_n C dX4_quiverOf_0 rfl ?_
  refine aw_get C f96 (hR.ar (by have := hI.1.2.1; omega)) rfl dX4_quiverOf_1 ?_
  refine aw_iconst C (v := (-1)) (by decide) dX4_quiverOf_4 ?_
  refine aw_icmp_ne C (tgt := 19) dX4_quiverOf_5 (by decide) (fun c_5 => ?_) (fun c_5 => ?_)
  · obtain ⟨n, hn, hn2⟩ := (hI.2.2.2.1 j hj).2.2.resolve_left c_5
    have hn6 : n < 6 := by have := hI.1.2.2.2; omega
    refine aw_aload_n C dX4_quiverOf_19 rfl ?_
    refine aw_get C f17 hR.mn rfl dX4_quiverOf_20 ?_
    refine aw_aload_n C dX4_quiverOf_23 rfl ?_
    refine aw_get C f96 (hR.ar (by have := hI.1.2.1; omega)) rfl dX4_quiverOf_24 ?_
    refine aw_aaldE C (t0 := 4) rfl hR.aQ hn2 ⟨hn6, by decide⟩ rfl dX4_quiverOf_27 ?_
    refine aw_aret C (Or.inl ⟨_, rfl⟩) hQe ?_ (by omega) (by omega) dX4_quiverOf_28
    exact ⟨⟨n, hn, hn2, rfl⟩, rfl⟩
  · refine aw_throwW C hE hQ hnt hl9 B.tz (cls := ISE) (text := "the archer has no quiver") (ik := 54) (is := 313) (ic := 58) (by decide) (by decide +kernel) (by decide +kernel) B.str313 (by decide +kernel) xb58 B.xIS xo58 dX4_quiverOf_8 dX4_quiverOf_11 dX4_quiverOf_12 dX4_quiverOf_15 dX4_quiverOf_18 (by decide) (by decide) (by decide) (by decide) (by decide) (by decide) ?_
    exact ⟨rfl, c_5, rfl⟩
set_option maxRecDepth 100000 in
set_option maxHeartbeats 4000000 in
theorem k_X4_holderOf (B : Base s0) {μ : mu} {L : Nat → Nat → Nat} {S : SS} (h0 : RX g L S μ) (hI : Iv S) {x : Int32} : Ct l yX4_holderOf wsX4_holderOf (rmOf 0 0 0 0) s0 D (tyL g) [.ref (L 0 0), .int x] μ 0 0 (fun v μ' => v = some (.int (hoF S x)) ∧ μ' = μ) := by
  refine Ct.of (cc := cX4_holderOf) (own := RX4) (maxL := 3) (ret := (some .int)) (by decide) rfl rfl (Nat.le_of_ble_eq_true rfl) ?_
  intro p e s m args below meth c Q C hE hnm hQe
  obtain ⟨fh, fv, hR⟩ := h0
  have in_RX4 : ∀ w ∈ u_ws RX4 TX4 16, w ∈ wsX4_holderOf := by decide +kernel
  have in_RX0 : ∀ w ∈ u_ws RX0 TX0 12, w ∈ wsX4_holderOf := by decide +kernel
  have f51 : FL wsX4_holderOf RX4 51 6 "ArrowField" RX4 TX4 16 2 := ⟨in_RX4, rfl, by decide, by decide +kernel, Or.inl rfl⟩
  have f11 : FL wsX4_holderOf RX4 11 6 "ArrowField" RX4 TX4 16 0 := ⟨in_RX4, rfl, by decide, by decide +kernel, Or.inl rfl⟩
  have f96 : FL wsX4_holderOf RX4 96 2 "ArrowField$Archer" RX0 TX0 12 5 := ⟨in_RX0, rfl, by decide, by decide +kernel, Or.inl rfl⟩
  have hA6 := hI.1.2.1
  refine aw_iconst C (v := 0) (by decide) dX4_holderOf_0 ?_
  refine aw_istore_n C dX4_holderOf_1 (by decide) ?_
  refine aw_lv (lv' := [(0, .ref (L 0 0)), (1, .int x), (2, .int 0)]) ⟨rfl, rfl, rfl, trivial⟩ ?_
  have loop2 : ∀ (n : Nat) (i : Nat) (xi : Int32), S.nA - i = n → xi = nI i → i ≤ S.nA → fstN (fun i => decide (S.A i 5 = x)) (S.nA - i) i = hoF S x → Aw p l e (rmOf 0 0 0 0) s m args below meth c Q s0.heap.size D 3 μ 0 0 2 [(0, .ref (L 0 0)), (1, .int x), (2, .int xi)] [] := by
    intro n
    induction n using Nat.strongRecOn with
    | _ n ih =>
      intro i xi hn hx hk hs
      refine aw_iload_n C dX4_holderOf_2 rfl ?_
      refine aw_aload_n C dX4_holderOf_3 rfl ?_
      refine aw_get C f51 hR.mn rfl dX4_holderOf_4 ?_
      refine aw_icmp_ge C (tgt := 31) dX4_holderOf_7 (by decide) (fun c_7 => ?_) (fun c_7 => ?_)
      · refine aw_iconst C (v := (-1)) (by decide) dX4_holderOf_31 ?_
        refine aw_iret C hQe ?_ (by omega) (by omega) dX4_holderOf_32
        have e12 : i = S.nA := by have := ge_of (n := S.nA) hx (by omega) (by omega) (by rw [hI.1.1] at c_7; exact c_7); omega
        exact ⟨by rw [← hs, e12, Nat.sub_self]; rfl, rfl⟩
      · have hi : i < S.nA := lt_of (n := S.nA) hx (by omega) (by omega) (by rw [hI.1.1] at c_7; exact c_7)
        refine aw_aload_n C dX4_holderOf_10 rfl ?_
        refine aw_get C f11 hR.mn rfl dX4_holderOf_11 ?_
        refine aw_iload_n C dX4_holderOf_14 rfl ?_
        refine aw_aaldE C (t0 := 3) rfl hR.aA hx ⟨Nat.lt_of_lt_of_le hi hA6, by decide⟩ rfl dX4_holderOf_15 ?_
        refine aw_get C f96 (hR.ar (Nat.lt_of_lt_of_le hi hA6)) rfl dX4_holderOf_16 ?_
        refine aw_iload_n C dX4_holderOf_19 rfl ?_
        refine aw_icmp_ne C (tgt := 25) dX4_holderOf_20 (by decide) (fun c_20 => ?_) (fun c_20 => ?_)
        · refine aw_iinc C dX4_holderOf_25 rfl (by decide) ?_
          refine aw_goto C (tgt := 2) dX4_holderOf_28 (by decide) ?_
          have hs9 : fstN (fun i => decide (S.A i 5 = x)) (S.nA - (i + 1)) (i + 1) = hoF S x := by rw [← hs, show S.nA - i = (S.nA - (i + 1)) + 1 by omega, fstN_n (fun q => c_20 (of_decide_eq_true q))]
          refine aw_lv (lv' := [(0, .ref (L 0 0)), (1, .int x), (2, .int (xi + Int32.ofInt (1)))]) ⟨rfl, rfl, rfl, trivial⟩ ?_
          exact ih _ (by omega) (i + 1) (xi + Int32.ofInt (1)) rfl (by rw [hx]; exact nI_inc i) (by omega) hs9
        · refine aw_iload_n C dX4_holderOf_23 rfl ?_
          refine aw_iret C hQe ?_ (by omega) (by omega) dX4_holderOf_24
          exact ⟨by rw [← hs, show S.nA - i = (S.nA - (i + 1)) + 1 by omega, fstN_y (decide_eq_true c_20), hx], rfl⟩
  exact loop2 _ 0 0 rfl rfl (Nat.zero_le _) rfl
set_option maxRecDepth 100000 in
set_option maxHeartbeats 4000000 in
theorem k_X4_stuckArrows (B : Base s0) {μ : mu} {L : Nat → Nat → Nat} {S : SS} (h0 : RX g L S μ) (hI : Iv S)  : Ct l yX4_stuckArrows wsX4_stuckArrows (rmOf 1 0 0 60) s0 D (tyL g) [.ref (L 0 0)] μ 0 0 (fun v μ' => v = some (.int (skF S)) ∧ μ' = μ) := by
  refine Ct.of (cc := cX4_stuckArrows) (own := RX4) (maxL := 3) (ret := (some .int)) (by decide) rfl rfl (Nat.le_of_ble_eq_true rfl) ?_
  intro p e s m args below meth c Q C hE hnm hQe
  obtain ⟨fh, fv, hR⟩ := h0
  have in_RX4 : ∀ w ∈ u_ws RX4 TX4 16, w ∈ wsX4_stuckArrows := by decide +kernel
  have f67 : FL wsX4_stuckArrows RX4 67 6 "ArrowField" RX4 TX4 16 3 := ⟨in_RX4, rfl, by decide, by decide +kernel, Or.inl rfl⟩
  have f17 : FL wsX4_stuckArrows RX4 17 6 "ArrowField" RX4 TX4 16 1 := ⟨in_RX4, rfl, by decide, by decide +kernel, Or.inl rfl⟩
  have hQ6 := hI.1.2.2.2
  refine aw_iconst C (v := 0) (by decide) dX4_stuckArrows_0 ?_
  refine aw_istore_n C dX4_stuckArrows_1 (by decide) ?_
  refine aw_iconst C (v := 0) (by decide) dX4_stuckArrows_2 ?_
  refine aw_istore_n C dX4_stuckArrows_3 (by decide) ?_
  refine aw_lv (lv' := [(0, .ref (L 0 0)), (1, .int 0), (2, .int 0)]) ⟨rfl, rfl, rfl, trivial⟩ ?_
  have loop4 : ∀ (n : Nat) (i : Nat) (xi : Int32) (y : Int32), S.nQ - i = n → xi = nI i → i ≤ S.nQ → y = skN S.F i → Aw p l e (rmOf 1 0 0 60) s m args below meth c Q s0.heap.size D 3 μ 0 0 4 [(0, .ref (L 0 0)), (1, .int y), (2, .int xi)] [] := by
    intro n
    induction n using Nat.strongRecOn with
    | _ n ih =>
      intro i xi y hn hx hk hs
      refine aw_iload_n C dX4_stuckArrows_4 rfl ?_
      refine aw_aload_n C dX4_stuckArrows_5 rfl ?_
      refine aw_get C f67 hR.mn rfl dX4_stuckArrows_6 ?_
      refine aw_icmp_ge C (tgt := 34) dX4_stuckArrows_9 (by decide) (fun c_9 => ?_) (fun c_9 => ?_)
      · refine aw_iload_n C dX4_stuckArrows_34 rfl ?_
        refine aw_iret C hQe ?_ (by omega) (by omega) dX4_stuckArrows_35
        have e12 : i = S.nQ := by have := ge_of (n := S.nQ) hx (by omega) (by omega) (by rw [hI.1.2.2.1] at c_9; exact c_9); omega
        exact ⟨by rw [hs, e12]; rfl, rfl⟩
      · have hi : i < S.nQ := lt_of (n := S.nQ) hx (by omega) (by omega) (by rw [hI.1.2.2.1] at c_9; exact c_9)
        have hi6 : i < 6 := Nat.lt_of_lt_of_le hi hQ6
        refine aw_iload_n C dX4_stuckArrows_12 rfl ?_
        refine aw_aload_n C dX4_stuckArrows_13 rfl ?_
        refine aw_get C f17 hR.mn rfl dX4_stuckArrows_14 ?_
        refine aw_iload_n C dX4_stuckArrows_17 rfl ?_
        refine aw_aaldE C (t0 := 4) rfl hR.aQ hx ⟨hi6, by decide⟩ rfl dX4_stuckArrows_18 ?_
        refine aw_iconst C (v := 1) (by decide) dX4_stuckArrows_19 ?_
        refine aw_callV (n := 1) C hE (ci := 5) (q := (RX3, TX3, 5)) (k_X3_setOf (q := S.q i) (st := L 7 i) (hh := L 8 i) (vv := L 9 i) (f := S.F i) (x := 1) B (hR.qu hi6) (hR.st hi6)) gX4_stuckArrows_X3_setOf rfl ⟨rfl, rfl⟩ (by decide +kernel) ⟨by decide, by decide⟩ rfl rfl (hR.qu hi6) rfl (Nat.le_of_ble_eq_true rfl) dX4_stuckArrows_20 ⟨by decide, by decide⟩ (fun v μ' hp => ?_)
        obtain ⟨rfl, hm9⟩ := hp
        replace hm9 := hm9.symm
        subst hm9
        refine aw_st (st' := [.int (setN (S.F i) 1 12), .int y]) rfl ?_
        refine aw_callS (n := 1) C hE (k_J6_bitCount_0f7a4 (x := (setN (S.F i) 1 12)) B) gX4_stuckArrows_J6_bitCount_0f7a4 rfl ⟨rfl, rfl⟩ (by decide +kernel) ⟨by decide, by decide⟩ rfl rfl (Nat.le_of_ble_eq_true rfl) dX4_stuckArrows_23 ⟨by decide, by decide⟩ (fun v μ' hp => ?_)
        obtain ⟨rfl, hm9⟩ := hp
        replace hm9 := hm9.symm
        subst hm9
        refine aw_st (st' := [.int (bcF (setN (S.F i) 1 12)), .int y]) rfl ?_
        refine aw_iadd C dX4_stuckArrows_26 ?_
        refine aw_istore_n C dX4_stuckArrows_27 (by decide) ?_
        refine aw_iinc C dX4_stuckArrows_28 rfl (by decide) ?_
        refine aw_goto C (tgt := 4) dX4_stuckArrows_31 (by decide) ?_
        refine aw_lv (lv' := [(0, .ref (L 0 0)), (1, .int (y + (bcF (setN (S.F i) 1 12)))), (2, .int (xi + Int32.ofInt (1)))]) ⟨rfl, rfl, rfl, trivial⟩ ?_
        exact ih _ (by omega) (i + 1) (xi + Int32.ofInt (1)) (y + (bcF (setN (S.F i) 1 12))) rfl (by rw [hx]; exact nI_inc i) (by omega) (by rw [hs]; rfl)
  exact loop4 _ 0 0 0 rfl rfl (Nat.zero_le _) rfl
end KL
