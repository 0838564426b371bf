/-! ===== ArrowFieldModel: the helpers ===== -/
theorem aw_re {p : Program} {l : Launch} {e : Env} {R : Room} {s : State} {m : MethodId} {args : Array Value} {below : List Frame} {meth : Method} {c : Code} {Q : State → Prop} {z0 : Nat} {D : va_G} {nL : Nat} {μ : mu} {cells slots pc : Nat} {lv : List (Nat × Value)} {st : List Value} {P : mu → Prop} (h : P μ) (k : ∀ μ1 : mu, P μ1 → Aw p l e R s m args below meth c Q z0 D nL μ1 cells slots pc lv st) : Aw p l e R s m args below meth c Q z0 D nL μ cells slots pc lv st := k μ h
theorem btw_inb {x : Int32} {n : Nat} (hn : n < 2 ^ 31) : btw x 0 (nI n - 1) = inb x n := by
  unfold btw inb
  cases n with
  | zero =>
    have h1 : ∀ y : Int32, ¬ (0 ≤ y ∧ y ≤ nI 0 - 1) := fun y h => by
      have h2 : y ≤ -1 := h.2
      exact absurd (Int32.le_trans h.1 h2) (by decide)
    have h3 : ∀ y : Int32, ¬ (0 ≤ y ∧ y < nI 0) := fun y h => Int32.not_lt.mpr h.1 h.2
    rw [decide_eq_false (h1 x), decide_eq_false (h3 x)]
  | succ n =>
    rw [nI_pred]
    congr 1
    refine propext ⟨fun h => ⟨h.1, ?_⟩, fun h => ⟨h.1, ?_⟩⟩
    · rw [Int32.lt_iff_toInt_lt, nI_toInt hn]
      have h2 := Int32.le_iff_toInt_le.mp h.2
      rw [nI_toInt (by omega)] at h2
      omega
    · rw [Int32.le_iff_toInt_le, nI_toInt (by omega)]
      have h2 := Int32.lt_iff_toInt_lt.mp h.2
      rw [nI_toInt hn] at h2
      omega
theorem nbool (p : Prop) [Decidable p] : narrow .boolean (.int (if p then 1 else 0)) = .int (if p then 1 else 0) := by split <;> rfl
theorem RM.it {g : Nat → ClassId} {K : Nat → Nat → Nat} {e0 : Nat} {S : SS} {X : XS} {μ : mu} (h : RM g K e0 S X μ) {o : Nat} {cu la ex : Int32} {li : Nat} (hi : μ o = some (eIt cu la ex li)) (e : va_E) : RM g K e0 S X (mp μ o e) :=
  have q {a : Nat} {x : va_E} (hx : μ a = some x) (ht : Nat.beq (eTag x) (eTag (eIt cu la ex li)) = false) : mp μ o e a = some x := mp_k hx (tag_ne hx hi ht)
  ⟨h.ki, q h.mo rfl, q h.aL rfl, q h.qL rfl, q h.pa rfl, q h.po rfl, q h.su rfl, fun z => q (h.aE z) rfl, fun z => q (h.qE z) rfl, fun i hi => q (h.xa hi) rfl, fun i hi => q (h.xq hi) rfl, fun i hi => q (h.wh hi) rfl, fun i hi => q (h.hh hi) rfl, fun i hi => q (h.vv hi) rfl⟩
theorem FrM.nwo {K : Nat → Nat → Nat} {nA nQ : Nat} {μ μ' : mu} (h : FrM K nA nQ μ μ') {o : Nat} {e : va_E} (ho : μ o = none) : FrM K nA nQ μ (mp μ' o e) := fun a x ha hn => mp_k (h a x ha hn) (nn_ne ho ha)
section KM1
variable {l : Launch} {s0 : State} {D : va_G} {g : Nat → ClassId}
theorem k_getA (B : Base s0) {μ : mu} {K : Nat → Nat → Nat} {e0 : Nat} {S : SS} {X : XS} (hM : RM g K e0 S X μ) {S9 : SS} (hI : Iv S9) {j : Nat} (hj : j < S.nA) (hA : S.nA = S9.nA := by rfl) : Ct l yJx4a65c_get_915e3 wsJx4a65c_get_915e3 (rmOf 2 0 0 80) s0 D (tyL g) [.ref (K 1 0), .int (nI j)] μ 0 0 (fun v9 μ' => v9 = some (.ref (K 8 j)) ∧ μ' = μ) :=
  k_Jx4a65c_get_915e3 B hM.aL (by rw [if_neg (by omega)]; exact hM.aE (by omega)) hj (by have := hI.A6; omega) (if_pos hj)
theorem k_getQ (B : Base s0) {μ : mu} {K : Nat → Nat → Nat} {e0 : Nat} {S : SS} {X : XS} (hM : RM g K e0 S X μ) {S9 : SS} (hI : Iv S9) {j : Nat} (hj : j < S.nQ) (hA : S.nQ = S9.nQ := by rfl) : Ct l yJx4a65c_get_915e3 wsJx4a65c_get_915e3 (rmOf 2 0 0 80) s0 D (tyL g) [.ref (K 2 0), .int (nI j)] μ 0 0 (fun v9 μ' => v9 = some (.ref (K 9 j)) ∧ μ' = μ) :=
  k_Jx4a65c_get_915e3 B hM.qL (by rw [if_neg (by omega)]; exact hM.qE (by omega)) hj (by have := hI.Q6; omega) (if_pos hj)
theorem k_nextA (B : Base s0) {μ : mu} {K : Nat → Nat → Nat} {e0 : Nat} {S : SS} {X : XS} (hM : RM g K e0 S X μ) {o j : Nat} {la : Int32} (hi : μ o = some (eIt (nI j) la (nI S.nA) (K 1 0))) (hj : j < S.nA) (hA : S.nA ≤ 6) : Ct l yJx35411_next_0502b wsJx35411_next_0502b (rmOf 1 0 0 40) s0 D (tyL g) [.ref o] μ 0 0 (fun v9 μ' => v9 = some (.ref (K 8 j)) ∧ μ' = mp μ o (eIt (nI (j + 1)) (nI j) (nI S.nA) (K 1 0))) :=
  k_Jx35411_next_0502b B hM.aL hi (by rw [if_neg (by omega)]; exact hM.aE (by omega)) hj (by omega) (if_pos hj)
theorem k_nextQ (B : Base s0) {μ : mu} {K : Nat → Nat → Nat} {e0 : Nat} {S : SS} {X : XS} (hM : RM g K e0 S X μ) {o j : Nat} {la : Int32} (hi : μ o = some (eIt (nI j) la (nI S.nQ) (K 2 0))) (hj : j < S.nQ) (hA : S.nQ ≤ 6) : Ct l yJx35411_next_0502b wsJx35411_next_0502b (rmOf 1 0 0 40) s0 D (tyL g) [.ref o] μ 0 0 (fun v9 μ' => v9 = some (.ref (K 9 j)) ∧ μ' = mp μ o (eIt (nI (j + 1)) (nI j) (nI S.nQ) (K 2 0))) :=
  k_Jx35411_next_0502b B hM.qL hi (by rw [if_neg (by omega)]; exact hM.qE (by omega)) hj (by omega) (if_pos hj)
set_option maxRecDepth 100000 in
set_option maxHeartbeats 4000000 in
theorem k_X7_thrown (B : Base s0) {μ : mu} {K : Nat → Nat → Nat} {e0 : Nat} {S : SS} {X : XS} (hM : RM g K e0 S X μ)  : Ct l yX7_thrown wsX7_thrown (rmOf 0 0 0 0) s0 D (tyL g) [.ref (K 0 0)] μ 0 0 (fun v9 μ' => v9 = some (.int X.th) ∧ μ' = μ) := by
  refine Ct.of (cc := cX7_thrown) (own := RX7) (maxL := 1) (ret := (some .int)) (by decide) rfl rfl (Nat.le_of_ble_eq_true rfl) ?_
  intro p e s m args below meth c Q C hE hnm hQe
  have in_RX7 : ∀ w ∈ u_ws RX7 TX7 22, w ∈ wsX7_thrown := by decide +kernel
  have f39 : FL wsX7_thrown RX7 39 9 "ArrowFieldModel" RX7 TX7 22 0 := ⟨in_RX7, rfl, by decide, by decide +kernel, Or.inl rfl⟩
  refine aw_aload_n C dX7_thrown_0 rfl ?_
  refine aw_get C f39 hM.mo rfl dX7_thrown_1 ?_
  refine aw_iret C hQe ?_ (by omega) (by omega) dX7_thrown_4
  exact ⟨rfl, rfl⟩
set_option maxRecDepth 100000 in
set_option maxHeartbeats 4000000 in
theorem k_X7_refuse (B : Base s0) {μ : mu} {K : Nat → Nat → Nat} {e0 : Nat} {S : SS} {X : XS} (hM : RM g K e0 S X μ) {x : Int32} : Ct l yX7_refuse wsX7_refuse (rmOf 0 0 0 0) s0 D (tyL g) [.ref (K 0 0), .int x] μ 0 0 (fun v9 μ' => v9 = some (.int 0) ∧ RM g K e0 S (X.wth x) μ' ∧ FrM K S.nA S.nQ μ μ') := by
  refine Ct.of (cc := cX7_refuse) (own := RX7) (maxL := 2) (ret := (some .int)) (by decide) rfl rfl (Nat.le_of_ble_eq_true rfl) ?_
  intro p e s m args below meth c Q C hE hnm hQe
  have in_RX7 : ∀ w ∈ u_ws RX7 TX7 22, w ∈ wsX7_refuse := by decide +kernel
  have f39 : FL wsX7_refuse RX7 39 9 "ArrowFieldModel" RX7 TX7 22 0 := ⟨in_RX7, rfl, by decide, by decide +kernel, Or.inl rfl⟩
  refine aw_aload_n C dX7_refuse_0 rfl ?_
  refine aw_iload_n C dX7_refuse_1 rfl ?_
  refine aw_putE C f39 ftX7 (ty := .int) (by decide +kernel) rfl rfl hM.mo (Nat.le_of_ble_eq_true rfl) (fs' := [.int x, .ref (K 1 0), .ref (K 2 0), .int (S.c 4), .int (S.c 5), .int (S.c 6), .int (S.c 9), .int (S.c 10), .int (S.c 8), .int (S.c 13), .int (S.c 7), .int (S.c 11), .int (S.c 14), .ref (K 3 0), .ref (K 4 0), .ref (K 5 0), .double X.ne, .int (nI X.T), .int X.il, .double X.h, .double X.v, .long X.sm]) rfl dX7_refuse_2 ?_
  refine aw_re (P := fun μ1 => RM g K e0 S (X.wth x) μ1 ∧ FrM K S.nA S.nQ μ μ1) ⟨hM.setX (X.wth x) rfl rfl rfl, (FrM.rf : FrM K S.nA S.nQ μ μ).mpw (m0 (by decide))⟩ (fun μ1 hq => ?_)
  obtain ⟨hM1, hF1⟩ := hq
  refine aw_iconst C (v := 0) (by decide) dX7_refuse_5 ?_
  refine aw_iret C hQe ?_ (by omega) (by omega) dX7_refuse_6
  exact ⟨rfl, hM1, hF1⟩
set_option maxRecDepth 100000 in
set_option maxHeartbeats 4000000 in
theorem k_X7_is (B : Base s0) {μ : mu} {x lo hi : Int32} : Ct l yX7_is wsX7_is (rmOf 0 0 0 0) s0 D (tyL g) [.int x, .int lo, .int hi] μ 0 0 (fun v9 μ' => v9 = some (.int (if btw x lo hi = true then 1 else 0)) ∧ μ' = μ) := by
  refine Ct.of (cc := cX7_is) (own := RX7) (maxL := 3) (ret := (some .boolean)) (by decide) rfl rfl (Nat.le_of_ble_eq_true rfl) ?_
  intro p e s m args below meth c Q C hE hnm hQe
  refine aw_iload_n C dX7_is_0 rfl ?_
  refine aw_iload_n C dX7_is_1 rfl ?_
  refine aw_icmp_lt C (tgt := 14) dX7_is_2 (by decide) (fun c_2 => ?_) (fun c_2 => ?_)
  · refine aw_iconst C (v := 0) (by decide) dX7_is_14 ?_
    refine aw_zret C hQe rfl ?_ (by omega) (by omega) dX7_is_15
    exact ⟨by rw [if_neg (by rw [btw_n1 c_2]; decide)], rfl⟩
  · refine aw_iload_n C dX7_is_5 rfl ?_
    refine aw_iload_n C dX7_is_6 rfl ?_
    refine aw_icmp_gt C (tgt := 14) dX7_is_7 (by decide) (fun c_7 => ?_) (fun c_7 => ?_)
    · refine aw_iconst C (v := 0) (by decide) dX7_is_14 ?_
      refine aw_zret C hQe rfl ?_ (by omega) (by omega) dX7_is_15
      exact ⟨by rw [if_neg (by rw [btw_n2 (Int32.not_le.mpr c_7)]; decide)], rfl⟩
    · refine aw_iconst C (v := 1) (by decide) dX7_is_10 ?_
      refine aw_goto C (tgt := 15) dX7_is_11 (by decide) ?_
      refine aw_zret C hQe rfl ?_ (by omega) (by omega) dX7_is_15
      exact ⟨by rw [if_pos (btw_y c_2 (Int32.not_lt.mp c_7))], rfl⟩
set_option maxRecDepth 100000 in
set_option maxHeartbeats 4000000 in
theorem k_X7_isArcher (B : Base s0) {μ : mu} {K : Nat → Nat → Nat} {e0 : Nat} {S : SS} {X : XS} (hM : RM g K e0 S X μ) (hI : Iv S) {x : Int32} : Ct l yX7_isArcher wsX7_isArcher (rmOf 1 0 0 40) s0 D (tyL g) [.ref (K 0 0), .int x] μ 0 0 (fun v9 μ' => v9 = some (.int (if inb x S.nA = true then 1 else 0)) ∧ μ' = μ) := by
  refine Ct.of (cc := cX7_isArcher) (own := RX7) (maxL := 2) (ret := (some .boolean)) (by decide) rfl rfl (Nat.le_of_ble_eq_true rfl) ?_
  intro p e s m args below meth c Q C hE hnm hQe
  have in_RX7 : ∀ w ∈ u_ws RX7 TX7 22, w ∈ wsX7_isArcher := by decide +kernel
  have f10 : FL wsX7_isArcher RX7 10 9 "ArrowFieldModel" RX7 TX7 22 1 := ⟨in_RX7, rfl, by decide, by decide +kernel, Or.inl rfl⟩
  refine aw_iload_n C dX7_isArcher_0 rfl ?_
  refine aw_iconst C (v := 0) (by decide) dX7_isArcher_1 ?_
  refine aw_aload_n C dX7_isArcher_2 rfl ?_
  refine aw_get C f10 hM.mo rfl dX7_isArcher_3 ?_
  refine aw_callV (n := 0) C hE (ci := 1) (q := (RJx4a65c, TJx4a65c, 3)) (k_Jx4a65c_size_8abf5 B hM.aL) gX7_isArcher_Jx4a65c_size_8abf5 rfl ⟨rfl, rfl⟩ (by decide +kernel) ⟨by decide, by decide⟩ rfl rfl hM.aL rfl (Nat.le_of_ble_eq_true rfl) dX7_isArcher_6 ⟨by decide, by decide⟩ (fun v μ' hp => ?_)
  obtain ⟨rfl, hm9⟩ := hp
  replace hm9 := hm9.symm
  subst hm9
  refine aw_st (st' := [.int (nI S.nA), .int 0, .int x]) rfl ?_
  refine aw_iconst C (v := 1) (by decide) dX7_isArcher_9 ?_
  refine aw_isub C dX7_isArcher_10 ?_
  refine aw_callS (n := 3) C hE (k_X7_is (x := x) (lo := 0) (hi := ((nI S.nA) - 1)) B) gX7_isArcher_X7_is rfl ⟨rfl, rfl⟩ (by decide +kernel) ⟨by decide, by decide⟩ rfl rfl (Nat.le_of_ble_eq_true rfl) dX7_isArcher_11 ⟨by decide, by decide⟩ (fun v μ' hp => ?_)
  obtain ⟨rfl, hm9⟩ := hp
  replace hm9 := hm9.symm
  subst hm9
  refine aw_st (st' := [.int (if btw x 0 (nI S.nA - 1) = true then 1 else 0)]) rfl ?_
  rw [btw_inb (by have := hI.A6; omega)]
  refine aw_zret C hQe (nbool _) ?_ (by omega) (by omega) dX7_isArcher_14
  exact ⟨rfl, rfl⟩
set_option maxRecDepth 100000 in
set_option maxHeartbeats 4000000 in
theorem k_X7_isQuiver (B : Base s0) {μ : mu} {K : Nat → Nat → Nat} {e0 : Nat} {S : SS} {X : XS} (hM : RM g K e0 S X μ) (hI : Iv S) {x : Int32} : Ct l yX7_isQuiver wsX7_isQuiver (rmOf 1 0 0 40) s0 D (tyL g) [.ref (K 0 0), .int x] μ 0 0 (fun v9 μ' => v9 = some (.int (if inb x S.nQ = true then 1 else 0)) ∧ μ' = μ) := by
  refine Ct.of (cc := cX7_isQuiver) (own := RX7) (maxL := 2) (ret := (some .boolean)) (by decide) rfl rfl (Nat.le_of_ble_eq_true rfl) ?_
  intro p e s m args below meth c Q C hE hnm hQe
  have in_RX7 : ∀ w ∈ u_ws RX7 TX7 22, w ∈ wsX7_isQuiver := by decide +kernel
  have f16 : FL wsX7_isQuiver RX7 16 9 "ArrowFieldModel" RX7 TX7 22 2 := ⟨in_RX7, rfl, by decide, by decide +kernel, Or.inl rfl⟩
  refine aw_iload_n C dX7_isQuiver_0 rfl ?_
  refine aw_iconst C (v := 0) (by decide) dX7_isQuiver_1 ?_
  refine aw_aload_n C dX7_isQuiver_2 rfl ?_
  refine aw_get C f16 hM.mo rfl dX7_isQuiver_3 ?_
  refine aw_callV (n := 0) C hE (ci := 1) (q := (RJx4a65c, TJx4a65c, 3)) (k_Jx4a65c_size_8abf5 B hM.qL) gX7_isQuiver_Jx4a65c_size_8abf5 rfl ⟨rfl, rfl⟩ (by decide +kernel) ⟨by decide, by decide⟩ rfl rfl hM.qL rfl (Nat.le_of_ble_eq_true rfl) dX7_isQuiver_6 ⟨by decide, by decide⟩ (fun v μ' hp => ?_)
  obtain ⟨rfl, hm9⟩ := hp
  replace hm9 := hm9.symm
  subst hm9
  refine aw_st (st' := [.int (nI S.nQ), .int 0, .int x]) rfl ?_
  refine aw_iconst C (v := 1) (by decide) dX7_isQuiver_9 ?_
  refine aw_isub C dX7_isQuiver_10 ?_
  refine aw_callS (n := 3) C hE (k_X7_is (x := x) (lo := 0) (hi := ((nI S.nQ) - 1)) B) gX7_isQuiver_X7_is rfl ⟨rfl, rfl⟩ (by decide +kernel) ⟨by decide, by decide⟩ rfl rfl (Nat.le_of_ble_eq_true rfl) dX7_isQuiver_11 ⟨by decide, by decide⟩ (fun v μ' hp => ?_)
  obtain ⟨rfl, hm9⟩ := hp
  replace hm9 := hm9.symm
  subst hm9
  refine aw_st (st' := [.int (if btw x 0 (nI S.nQ - 1) = true then 1 else 0)]) rfl ?_
  rw [btw_inb (by have := hI.Q6; omega)]
  refine aw_zret C hQe (nbool _) ?_ (by omega) (by omega) dX7_isQuiver_14
  exact ⟨rfl, rfl⟩
set_option maxRecDepth 100000 in
set_option maxHeartbeats 4000000 in
theorem k_X7_isOn (B : Base s0) {μ : mu} {K : Nat → Nat → Nat} {e0 : Nat} {S : SS} {X : XS} (hM : RM g K e0 S X μ) (hI : Iv S) {b : Nat} (hR : MR S X b)  : Ct l yX7_isOn wsX7_isOn (rmOf 0 0 0 0) s0 D (tyL g) [.ref (K 0 0)] μ 0 0 (fun v9 μ' => v9 = some (.int (if S.t 0 = 0 then 0 else 1)) ∧ μ' = μ) := by
  refine Ct.of (cc := cX7_isOn) (own := RX7) (maxL := 1) (ret := (some .boolean)) (by decide) rfl rfl (Nat.le_of_ble_eq_true rfl) ?_
  intro p e s m args below meth c Q C hE hnm hQe
  have in_RX7 : ∀ w ∈ u_ws RX7 TX7 22, w ∈ wsX7_isOn := by decide +kernel
  have f29 : FL wsX7_isOn RX7 29 9 "ArrowFieldModel" RX7 TX7 22 13 := ⟨in_RX7, rfl, by decide, by decide +kernel, Or.inl rfl⟩
  refine aw_aload_n C dX7_isOn_0 rfl ?_
  refine aw_get C f29 hM.mo rfl dX7_isOn_1 ?_
  refine aw_iconst C (v := 0) (by decide) dX7_isOn_4 ?_
  refine aw_ialdE C hM.pa (by decide : (0 : Int32) = nI 0) ⟨by decide, by decide⟩ rfl dX7_isOn_5 ?_
  refine aw_iconst C (v := (-1)) (by decide) dX7_isOn_6 ?_
  refine aw_icmp_eq C (tgt := 14) dX7_isOn_7 (by decide) (fun c_7 => ?_) (fun c_7 => ?_)
  · refine aw_iconst C (v := 0) (by decide) dX7_isOn_14 ?_
    refine aw_zret C hQe rfl ?_ (by omega) (by omega) dX7_isOn_15
    exact ⟨by rw [if_pos (Classical.byContradiction fun q => by
      obtain ⟨-, k, i, j, -, -, hi, h1, -⟩ := hI.on q
      exact nI_m1 (by have := hI.A6; omega) (h1.symm.trans ((hR.2.2 q).1.symm.trans c_7)))], rfl⟩
  · refine aw_iconst C (v := 1) (by decide) dX7_isOn_10 ?_
    refine aw_goto C (tgt := 15) dX7_isOn_11 (by decide) ?_
    refine aw_zret C hQe rfl ?_ (by omega) (by omega) dX7_isOn_15
    exact ⟨by rw [if_neg (fun q => c_7 (hR.2.1 q))], rfl⟩
set_option maxRecDepth 100000 in
set_option maxHeartbeats 4000000 in
theorem k_X7_holder (B : Base s0) {μ : mu} {K : Nat → Nat → Nat} {e0 : Nat} {S : SS} {X : XS} (hM : RM g K e0 S X μ) (hI : Iv S) {x : Int32} : Ct l yX7_holder wsX7_holder (rmOf 3 0 0 120) s0 D (tyL g) [.ref (K 0 0), .int x] μ 0 0 (fun v9 μ' => v9 = some (.int (hoF S x)) ∧ μ' = μ) := by
  refine Ct.of (cc := cX7_holder) (own := RX7) (maxL := 3) (ret := (some .int)) (by decide) rfl rfl (Nat.le_of_ble_eq_true rfl) ?_
  intro p e s m args below meth c Q C hE hnm hQe
  have in_RX7 : ∀ w ∈ u_ws RX7 TX7 22, w ∈ wsX7_holder := by decide +kernel
  have in_RX5 : ∀ w ∈ u_ws RX5 TX5 12, w ∈ wsX7_holder := by decide +kernel
  have f10 : FL wsX7_holder RX7 10 9 "ArrowFieldModel" RX7 TX7 22 1 := ⟨in_RX7, rfl, by decide, by decide +kernel, Or.inl rfl⟩
  have f56 : FN s0 wsX7_holder RX7 56 7 "ArrowFieldModel$Archer" RX5 TX5 12 5 "ArrowFieldModel" := ⟨in_RX5, rfl, by decide, B.fnRX7_56, rfl⟩
  have hA6 := hI.A6
  refine aw_iconst C (v := 0) (by decide) dX7_holder_0 ?_
  refine aw_istore_n C dX7_holder_1 (by decide) ?_
  refine aw_lv (lv' := [(0, .ref (K 0 0)), (1, .int x), (2, .int 0)]) ⟨rfl, rfl, rfl, trivial⟩ ?_
  have loop2 : ∀ (n : Nat) (i : Nat) (xi : Int32), S.nA - i = n → xi = nI i → i ≤ S.nA → fstN (fun i => decide (S.A i 5 = x)) (S.nA - i) i = hoF S x → Aw p l e (rmOf 3 0 0 120) s m args below meth c Q s0.heap.size D 3 μ 0 0 2 [(0, .ref (K 0 0)), (1, .int x), (2, .int xi)] [] := by
    intro n
    induction n using Nat.strongRecOn with
    | _ n ih =>
      intro i xi hn hx hk hs
      refine aw_iload_n C dX7_holder_2 rfl ?_
      refine aw_aload_n C dX7_holder_3 rfl ?_
      refine aw_get C f10 hM.mo rfl dX7_holder_4 ?_
      refine aw_callV (n := 0) C hE (ci := 1) (q := (RJx4a65c, TJx4a65c, 3)) (k_Jx4a65c_size_8abf5 B hM.aL) gX7_holder_Jx4a65c_size_8abf5 rfl ⟨rfl, rfl⟩ (by decide +kernel) ⟨by decide, by decide⟩ rfl rfl hM.aL rfl (Nat.le_of_ble_eq_true rfl) dX7_holder_7 ⟨by decide, by decide⟩ (fun v μ' hp => ?_)
      obtain ⟨rfl, hm9⟩ := hp
      replace hm9 := hm9.symm
      subst hm9
      refine aw_st (st' := [.int (nI S.nA), .int xi]) rfl ?_
      refine aw_icmp_ge C (tgt := 39) dX7_holder_10 (by decide) (fun c_10 => ?_) (fun c_10 => ?_)
      · refine aw_iconst C (v := (-1)) (by decide) dX7_holder_39 ?_
        refine aw_iret C hQe ?_ (by omega) (by omega) dX7_holder_40
        have e8 : i = S.nA := by have := ge_of (n := S.nA) hx (by omega) (by omega) c_10; omega
        exact ⟨by rw [← hs, e8, Nat.sub_self]; rfl, rfl⟩
      · have hi : i < S.nA := lt_of (n := S.nA) hx (by omega) (by omega) c_10
        subst hx
        refine aw_aload_n C dX7_holder_13 rfl ?_
        refine aw_get C f10 hM.mo rfl dX7_holder_14 ?_
        refine aw_iload_n C dX7_holder_17 rfl ?_
        refine aw_callV (n := 1) C hE (ci := 1) (q := (RJx4a65c, TJx4a65c, 3)) (k_getA B hM hI hi) gX7_holder_Jx4a65c_get_915e3 rfl ⟨rfl, rfl⟩ (by decide +kernel) ⟨by decide, by decide⟩ rfl rfl hM.aL rfl (Nat.le_of_ble_eq_true rfl) dX7_holder_18 ⟨by decide, by decide⟩ (fun v μ' hp => ?_)
        obtain ⟨rfl, hm9⟩ := hp
        replace hm9 := hm9.symm
        subst hm9
        refine aw_st (st' := [.ref (K 8 i)]) rfl ?_
        refine aw_cast C (ci := 7) (by decide +kernel) (va_Nw.warmC hE.1 B.caXa) rfl (hM.xa hi) dX7_holder_21 ?_
        refine aw_getN C hE f56 (hM.xa hi) rfl dX7_holder_24 ?_
        refine aw_iload_n C dX7_holder_27 rfl ?_
        refine aw_icmp_ne C (tgt := 33) dX7_holder_28 (by decide) (fun c_28 => ?_) (fun c_28 => ?_)
        · refine aw_iinc C dX7_holder_33 rfl (by decide) ?_
          refine aw_goto C (tgt := 2) dX7_holder_36 (by decide) ?_
          have hs9 : fstN (fun i => decide (S.A i 5 = x)) (S.nA - (i + 1)) (i + 1) = hoF S x := by rw [← hs, show S.nA - i = (S.nA - (i + 1)) + 1 by omega, fstN_n (fun q => c_28 (of_decide_eq_true q))]
          refine aw_lv (lv' := [(0, .ref (K 0 0)), (1, .int x), (2, .int (nI i + Int32.ofInt 1))]) ⟨rfl, rfl, rfl, trivial⟩ ?_
          exact ih _ (by omega) (i + 1) (nI i + Int32.ofInt 1) rfl (nI_inc i) (by omega) hs9
        · refine aw_iload_n C dX7_holder_31 rfl ?_
          refine aw_iret C hQe ?_ (by omega) (by omega) dX7_holder_32
          exact ⟨by rw [← hs, show S.nA - i = (S.nA - (i + 1)) + 1 by omega, fstN_y (decide_eq_true c_28)], rfl⟩
  exact loop2 _ 0 0 rfl rfl (Nat.zero_le _) rfl
set_option maxRecDepth 100000 in
set_option maxHeartbeats 4000000 in
theorem k_X6_set (B : Base s0) {μ : mu} {a st hh vv : Nat} {q f : Nat → Int32} (h1 : μ a = some (eXq q st hh vv)) (h2 : μ st = some (eI g 12 f)) {x : Int32} : Ct l yX6_set wsX6_set (rmOf 0 0 0 0) s0 D (tyL g) [.ref a, .int x] μ 0 0 (fun v9 μ' => v9 = some (.int (setN f x 12)) ∧ μ' = μ) := by
  refine Ct.of (cc := cX6_set) (own := RX6) (maxL := 4) (ret := (some .int)) (by decide) rfl rfl (Nat.le_of_ble_eq_true rfl) ?_
  intro p e s m args below meth c Q C hE hnm hQe
  have in_RX6 : ∀ w ∈ u_ws RX6 TX6 5, w ∈ wsX6_set := by decide +kernel
  have f9 : FL wsX6_set RX6 9 8 "ArrowFieldModel$Quiver" RX6 TX6 5 2 := ⟨in_RX6, rfl, by decide, by decide +kernel, Or.inl rfl⟩
  refine aw_iconst C (v := 0) (by decide) dX6_set_0 ?_
  refine aw_istore_n C dX6_set_1 (by decide) ?_
  refine aw_iconst C (v := 0) (by decide) dX6_set_2 ?_
  refine aw_istore_n C dX6_set_3 (by decide) ?_
  refine aw_lv (lv' := [(0, .ref a), (1, .int x), (2, .int 0), (3, .int 0)]) ⟨rfl, rfl, rfl, rfl, trivial⟩ ?_
  have loop4 : ∀ (n : Nat) (i : Nat) (xi : Int32) (y : Int32), 12 - i = n → xi = nI i → i ≤ 12 → y = setN f x i → Aw p l e (rmOf 0 0 0 0) s m args below meth c Q s0.heap.size D 4 μ 0 0 4 [(0, .ref a), (1, .int x), (2, .int y), (3, .int xi)] [] := by
    intro n
    induction n using Nat.strongRecOn with
    | _ n ih =>
      intro i xi y hn hx hk hs
      refine aw_iload_n C dX6_set_4 rfl ?_
      refine aw_bipush C (v := 12) (by decide) dX6_set_5 ?_
      refine aw_icmp_ge C (tgt := 36) dX6_set_7 (by decide) (fun c_7 => ?_) (fun c_7 => ?_)
      · refine aw_iload_n C dX6_set_36 rfl ?_
        refine aw_iret C hQe ?_ (by omega) (by omega) dX6_set_37
        have e8 : i = 12 := by have := ge_of (n := 12) hx (by decide) (by omega) c_7; omega
        exact ⟨by rw [hs, e8], rfl⟩
      · have hi : i < 12 := lt_of (n := 12) hx (by decide) (by omega) c_7
        subst hx
        refine aw_iload_n C dX6_set_10 rfl ?_
        refine aw_aload_n C dX6_set_11 rfl ?_
        refine aw_get C f9 h1 rfl dX6_set_12 ?_
        refine aw_iload_n C dX6_set_15 rfl ?_
        refine aw_ialdE C h2 rfl ⟨hi, by decide⟩ rfl dX6_set_16 ?_
        refine aw_iload_n C dX6_set_17 rfl ?_
        refine aw_icmp_ne C (tgt := 27) dX6_set_18 (by decide) (fun c_18 => ?_) (fun c_18 => ?_)
        · refine aw_iconst C (v := 0) (by decide) dX6_set_27 ?_
          refine aw_ior C dX6_set_28 ?_
          refine aw_istore_n C dX6_set_29 (by decide) ?_
          refine aw_iinc C dX6_set_30 rfl (by decide) ?_
          refine aw_goto C (tgt := 4) dX6_set_33 (by decide) ?_
          refine aw_lv (lv' := [(0, .ref a), (1, .int x), (2, .int (y ||| 0)), (3, .int (nI i + Int32.ofInt 1))]) ⟨rfl, rfl, rfl, rfl, trivial⟩ ?_
          exact ih _ (by omega) (i + 1) (nI i + Int32.ofInt 1) (y ||| 0) rfl (nI_inc i) (by omega) (by rw [hs, Int32.or_zero]; exact (if_neg c_18).symm)
        · refine aw_iconst C (v := 1) (by decide) dX6_set_21 ?_
          refine aw_iload_n C dX6_set_22 rfl ?_
          refine aw_ishl C dX6_set_23 ?_
          refine aw_goto C (tgt := 28) dX6_set_24 (by decide) ?_
          refine aw_ior C dX6_set_28 ?_
          refine aw_istore_n C dX6_set_29 (by decide) ?_
          refine aw_iinc C dX6_set_30 rfl (by decide) ?_
          refine aw_goto C (tgt := 4) dX6_set_33 (by decide) ?_
          refine aw_lv (lv' := [(0, .ref a), (1, .int x), (2, .int (y ||| (1 <<< ((nI i) &&& 31)))), (3, .int (nI i + Int32.ofInt 1))]) ⟨rfl, rfl, rfl, rfl, trivial⟩ ?_
          exact ih _ (by omega) (i + 1) (nI i + Int32.ofInt 1) (y ||| (1 <<< ((nI i) &&& 31))) rfl (nI_inc i) (by omega) (by rw [hs]; exact (if_pos c_18).symm)
  exact loop4 _ 0 0 0 rfl rfl (by decide) rfl
set_option maxRecDepth 100000 in
set_option maxHeartbeats 4000000 in
theorem k_X7_speed (B : Base s0) {μ : mu} {a b9 st hh vv : Nat} {A q : Nat → Int32} {cr : UInt32} (h1 : μ a = some (eXa A cr)) (h2 : μ b9 = some (eXq q st hh vv)) (hd : 20 ≤ (A 0).toInt ∧ (A 0).toInt ≤ 60) (hm : 200 ≤ (q 0).toInt ∧ (q 0).toInt ≤ 600) (hc : CrOk cr) : Ct l yX7_speed wsX7_speed (rmOf 0 0 0 0) s0 D (tyL g) [.ref a, .ref b9] μ 0 0 (fun v9 μ' => v9 = some (.double (spd (A 0) (q 0) cr)) ∧ μ' = μ) := by
  refine Ct.of (cc := cX7_speed) (own := RX7) (maxL := 2) (ret := (some .double)) (by decide) rfl rfl (Nat.le_of_ble_eq_true rfl) ?_
  intro p e s m args below meth c Q C hE hnm hQe
  have in_RX5 : ∀ w ∈ u_ws RX5 TX5 12, w ∈ wsX7_speed := by decide +kernel
  have in_RX6 : ∀ w ∈ u_ws RX6 TX6 5, w ∈ wsX7_speed := by decide +kernel
  have f64 : FN s0 wsX7_speed RX7 64 7 "ArrowFieldModel$Archer" RX5 TX5 12 0 "ArrowFieldModel" := ⟨in_RX5, rfl, by decide, B.fnRX7_64, rfl⟩
  have k134 : Cond.constantDouble RX7 134 (4648488871632306176) ∈ wsX7_speed := by decide +kernel
  have f77 : FN s0 wsX7_speed RX7 77 8 "ArrowFieldModel$Quiver" RX6 TX6 5 0 "ArrowFieldModel" := ⟨in_RX6, rfl, by decide, B.fnRX7_77, rfl⟩
  have k136 : Cond.constantDouble RX7 136 (4641240890982006784) ∈ wsX7_speed := by decide +kernel
  have f103 : FN s0 wsX7_speed RX7 103 7 "ArrowFieldModel$Archer" RX5 TX5 12 4 "ArrowFieldModel" := ⟨in_RX5, rfl, by decide, B.fnRX7_103, rfl⟩
  obtain ⟨s1, s2, s3, s4, s5, s6, -, -⟩ := spd_ok hd hm hc
  refine aw_aload_n C dX7_speed_0 rfl ?_
  refine aw_getN C hE f64 h1 rfl dX7_speed_1 ?_
  refine aw_i2d C dX7_speed_4 ?_
  refine aw_ldc2d C k134 dX7_speed_5 ?_
  refine aw_dmul C s1 dX7_speed_8 ?_
  refine aw_aload_n C dX7_speed_9 rfl ?_
  refine aw_getN C hE f77 h2 rfl dX7_speed_10 ?_
  refine aw_i2d C dX7_speed_13 ?_
  refine aw_ldc2d C k136 dX7_speed_14 ?_
  refine aw_dadd C s2 dX7_speed_17 ?_
  refine aw_ddiv C s3 dX7_speed_18 ?_
  refine aw_dconst1 C dX7_speed_19 ?_
  refine aw_aload_n C dX7_speed_20 rfl ?_
  refine aw_getN C hE f103 h1 rfl dX7_speed_21 ?_
  refine aw_f2d C s4 dX7_speed_24 ?_
  refine aw_dsub C s5 dX7_speed_25 ?_
  refine aw_dmul C s6 dX7_speed_26 ?_
  refine aw_dret C hQe ?_ (by omega) (by omega) dX7_speed_27
  exact ⟨rfl, rfl⟩
set_option maxRecDepth 100000 in
set_option maxHeartbeats 4000000 in
theorem k_X7_score (B : Base s0) {μ : mu} {K : Nat → Nat → Nat} {e0 : Nat} {S : SS} {X : XS} (hM : RM g K e0 S X μ) {far : UInt64} (hfn : Nn far) : Ct l yX7_score wsX7_score (rmOf 0 0 0 0) s0 D (tyL g) [.ref (K 0 0), .double far] μ 0 0 (fun v9 μ' => v9 = some (.int (wth (S.c 6) far)) ∧ μ' = μ) := by
  refine Ct.of (cc := cX7_score) (own := RX7) (maxL := 6) (ret := (some .int)) (by decide) rfl rfl (Nat.le_of_ble_eq_true rfl) ?_
  intro p e s m args below meth c Q C hE hnm hQe
  have in_RX7 : ∀ w ∈ u_ws RX7 TX7 22, w ∈ wsX7_score := by decide +kernel
  have f23 : FL wsX7_score RX7 23 9 "ArrowFieldModel" RX7 TX7 22 5 := ⟨in_RX7, rfl, by decide, by decide +kernel, Or.inl rfl⟩
  have k159 : Cond.constantDouble RX7 159 (4634204016564240384) ∈ wsX7_score := by decide +kernel
  have k161 : Cond.constantDouble RX7 161 (4575657221408423936) ∈ wsX7_score := by decide +kernel
  refine aw_bipush C (v := 10) (by decide) dX7_score_0 ?_
  refine aw_istore_n C dX7_score_2 (by decide) ?_
  refine aw_lv (lv' := [(0, .ref (K 0 0)), (1, .double far), (3, .int 10)]) ⟨rfl, rfl, rfl, trivial⟩ ?_
  have loop3 : ∀ (n : Nat) (k : Nat) (x : Int32), k = n → x = nI k → k ≤ 10 → wthN (S.c 6) far k = wth (S.c 6) far → Aw p l e (rmOf 0 0 0 0) s m args below meth c Q s0.heap.size D 6 μ 0 0 3 [(0, .ref (K 0 0)), (1, .double far), (3, .int x)] [] := by
    intro n
    induction n using Nat.strongRecOn with
    | _ n ih =>
      intro k x hn hx hk hr
      refine aw_iload_n C dX7_score_3 rfl ?_
      refine aw_if_le C (tgt := 45) dX7_score_4 (by decide) (fun c_4 => ?_) (fun c_4 => ?_)
      · refine aw_iconst C (v := 0) (by decide) dX7_score_45 ?_
        refine aw_iret C hQe ?_ (by omega) (by omega) dX7_score_46
        have hk0 : k = 0 := by
          rcases Nat.eq_zero_or_pos k with q | q
          · exact q
          · exact absurd (hx ▸ c_4) (nI_nle q (by omega))
        subst hk0
        exact ⟨by rw [← hr]; rfl, rfl⟩
      · obtain ⟨k9, rfl⟩ : ∃ k9, k = k9 + 1 := ⟨k - 1, by rcases Nat.eq_zero_or_pos k with q | q; exact absurd (show x ≤ 0 by rw [hx, q]; decide) c_4; omega⟩
        subst hx
        obtain ⟨r1, r2, r3⟩ := radF_ok (S.c 6) (nI (k9 + 1))
        refine aw_aload_n C dX7_score_7 rfl ?_
        refine aw_get C f23 hM.mo rfl dX7_score_8 ?_
        refine aw_bipush C (v := 11) (by decide) dX7_score_11 ?_
        refine aw_iload_n C dX7_score_13 rfl ?_
        refine aw_isub C dX7_score_14 ?_
        refine aw_imul C dX7_score_15 ?_
        refine aw_i2d C dX7_score_16 ?_
        refine aw_ldc2d C k159 dX7_score_17 ?_
        refine aw_ddiv C r1 dX7_score_20 ?_
        refine aw_ldc2d C k161 dX7_score_21 ?_
        refine aw_dadd C r2 dX7_score_24 ?_
        refine aw_dstore C dX7_score_25 (by decide) ?_
        refine aw_dload_n C dX7_score_27 rfl ?_
        refine aw_dload C dX7_score_28 rfl ?_
        refine aw_dload C dX7_score_30 rfl ?_
        refine aw_dmul C (r3.n (by decide)) dX7_score_32 ?_
        refine aw_dcmp C dX7_score_33 ?_
        refine aw_if_gt C (tgt := 39) dX7_score_34 (by decide) (fun c_34 => ?_) (fun c_34 => ?_)
        · refine aw_iinc C dX7_score_39 rfl (by decide) ?_
          refine aw_goto C (tgt := 3) dX7_score_42 (by decide) ?_
          have hr9 : wthN (S.c 6) far k9 = wth (S.c 6) far := by rw [← hr, wthN_s, if_neg (fun q => absurd ((kv_gt0 hfn (r3.nn (by decide)) .g).mp c_34) (by omega))]
          refine aw_lv (lv' := [(0, .ref (K 0 0)), (1, .double far), (3, .int (nI (k9 + 1) + Int32.ofInt (-1)))]) ⟨rfl, rfl, rfl, trivial⟩ ?_
          exact ih _ (by omega) k9 (nI (k9 + 1) + Int32.ofInt (-1)) rfl (pk_m1 k9) (by omega) hr9
        · refine aw_iload_n C dX7_score_37 rfl ?_
          refine aw_iret C hQe ?_ (by omega) (by omega) dX7_score_38
          exact ⟨by rw [← hr, wthN_s, if_pos (Int.not_lt.mp (fun q => c_34 ((kv_gt0 hfn (r3.nn (by decide)) .g).mpr q)))], rfl⟩
  exact loop3 _ 10 10 rfl rfl (Nat.le_refl 10) rfl
set_option maxRecDepth 100000 in
set_option maxHeartbeats 4000000 in
theorem k_X7_fly (B : Base s0) {μ : mu} {K : Nat → Nat → Nat} {e0 : Nat} {S : SS} {X : XS} (hM : RM g K e0 S X μ) (hI : Iv S) {j u : Nat} (hj : j < S.nA) (hu : u < S.nQ) {sight di : Int32} (hdi : di.toInt ≤ 90) : Ct l yX7_fly wsX7_fly (rmOf 1 0 0 60) s0 D (tyL g) [.ref (K 0 0), .ref (K 8 j), .ref (K 9 u), .int sight, .int di] μ 0 0 (fun v9 μ' => v9 = none ∧ RM g K e0 S ((X.wh (flH S j u sight di)).wv (flV S j u sight di)) μ' ∧ FrM K S.nA S.nQ μ μ') := by
  refine Ct.of (cc := cX7_fly) (own := RX7) (maxL := 15) (ret := none) (by decide) rfl rfl (Nat.le_of_ble_eq_true rfl) ?_
  intro p e s m args below meth c Q C hE hnm hQe
  have in_RX5 : ∀ w ∈ u_ws RX5 TX5 12, w ∈ wsX7_fly := by decide +kernel
  have in_RX6 : ∀ w ∈ u_ws RX6 TX6 5, w ∈ wsX7_fly := by decide +kernel
  have in_RX7 : ∀ w ∈ u_ws RX7 TX7 22, w ∈ wsX7_fly := by decide +kernel
  have k142 : Cond.constantDouble RX7 142 (4647714815446351872) ∈ wsX7_fly := by decide +kernel
  have f100 : FN s0 wsX7_fly RX7 100 7 "ArrowFieldModel$Archer" RX5 TX5 12 3 "ArrowFieldModel" := ⟨in_RX5, rfl, by decide, B.fnRX7_100, rfl⟩
  have k144 : Cond.constantDouble RX7 144 (4620693217682128896) ∈ wsX7_fly := by decide +kernel
  have f80 : FN s0 wsX7_fly RX7 80 8 "ArrowFieldModel$Quiver" RX6 TX6 5 1 "ArrowFieldModel" := ⟨in_RX6, rfl, by decide, B.fnRX7_80, rfl⟩
  have f64 : FN s0 wsX7_fly RX7 64 7 "ArrowFieldModel$Archer" RX5 TX5 12 0 "ArrowFieldModel" := ⟨in_RX5, rfl, by decide, B.fnRX7_64, rfl⟩
  have k146 : Cond.constantDouble RX7 146 (4643211215818981376) ∈ wsX7_fly := by decide +kernel
  have f148 : FL wsX7_fly RX7 148 9 "ArrowFieldModel" RX7 TX7 22 19 := ⟨in_RX7, rfl, by decide, by decide +kernel, Or.inl rfl⟩
  have f152 : FL wsX7_fly RX7 152 9 "ArrowFieldModel" RX7 TX7 22 20 := ⟨in_RX7, rfl, by decide, by decide +kernel, Or.inl rfl⟩
  have k155 : Cond.constantDouble RX7 155 (4625196817309499392) ∈ wsX7_fly := by decide +kernel
  have k157 : Cond.constantDouble RX7 157 (4603804719079489536) ∈ wsX7_fly := by decide +kernel
  have f131 : FL wsX7_fly RX7 131 9 "ArrowFieldModel" RX7 TX7 22 4 := ⟨in_RX7, rfl, by decide, by decide +kernel, Or.inl rfl⟩
  have k159 : Cond.constantDouble RX7 159 (4634204016564240384) ∈ wsX7_fly := by decide +kernel
  obtain ⟨-, -, -, -, -, -, hE9, -⟩ := spd_ok (hI.2.2.2.1 j hj).1 (hI.2.2.2.2.2.1 u hu) (hI.2.2.2.1 j hj).2.1
  obtain ⟨u1, u2, u3, u4, -⟩ := up_ok hE9 sight (S.A j 3)
  refine aw_aload_n C dX7_fly_0 rfl ?_
  refine aw_aload_n C dX7_fly_1 rfl ?_
  refine aw_callS (n := 2) C hE (k_X7_speed (A := S.A j) (q := S.q u) (cr := S.cr j) B (hM.xa hj) (hM.xq hu) (hI.2.2.2.1 j hj).1 (hI.2.2.2.2.2.1 u hu) (hI.2.2.2.1 j hj).2.1) gX7_fly_X7_speed rfl ⟨rfl, rfl⟩ (by decide +kernel) ⟨by decide, by decide⟩ rfl rfl (Nat.le_of_ble_eq_true rfl) dX7_fly_2 ⟨by decide, by decide⟩ (fun v μ' hp => ?_)
  obtain ⟨rfl, hm9⟩ := hp
  replace hm9 := hm9.symm
  subst hm9
  refine aw_st (st' := [.double (spd (S.A j 0) (S.q u 0) (S.cr j))]) rfl ?_
  refine aw_dstore C dX7_fly_5 (by decide) ?_
  refine aw_dload C dX7_fly_7 rfl ?_
  refine aw_dstore C dX7_fly_9 (by decide) ?_
  refine aw_dload C dX7_fly_11 rfl ?_
  refine aw_iload_n C dX7_fly_13 rfl ?_
  refine aw_i2d C dX7_fly_14 ?_
  refine aw_dmul C u1 dX7_fly_15 ?_
  refine aw_ldc2d C k142 dX7_fly_16 ?_
  refine aw_ddiv C u2 dX7_fly_19 ?_
  refine aw_aload_n C dX7_fly_20 rfl ?_
  refine aw_getN C hE f100 (hM.xa hj) rfl dX7_fly_21 ?_
  refine aw_i2d C dX7_fly_24 ?_
  refine aw_ldc2d C k144 dX7_fly_25 ?_
  refine aw_ddiv C u3 dX7_fly_28 ?_
  refine aw_dadd C u4 dX7_fly_29 ?_
  refine aw_dstore C dX7_fly_30 (by decide) ?_
  refine aw_aload_n C dX7_fly_32 rfl ?_
  refine aw_getN C hE f80 (hM.xq hu) rfl dX7_fly_33 ?_
  refine aw_sipush C (v := 1300) (by decide) dX7_fly_36 ?_
  refine aw_bipush C (v := 14) (by decide) dX7_fly_39 ?_
  refine aw_aload_n C dX7_fly_41 rfl ?_
  refine aw_getN C hE f64 (hM.xa hj) rfl dX7_fly_42 ?_
  refine aw_imul C dX7_fly_45 ?_
  refine aw_isub C dX7_fly_46 ?_
  refine aw_isub C dX7_fly_47 ?_
  refine aw_i2d C dX7_fly_48 ?_
  refine aw_ldc2d C k146 dX7_fly_49 ?_
  refine aw_ddiv C ((as_ok _).n (by decide)) dX7_fly_52 ?_
  refine aw_dstore C dX7_fly_53 (by decide) ?_
  refine aw_dconst0 C dX7_fly_55 ?_
  refine aw_dstore C dX7_fly_56 (by decide) ?_
  refine aw_aload_n C dX7_fly_58 rfl ?_
  refine aw_dconst0 C dX7_fly_59 ?_
  refine aw_putE C f148 ftX7 (ty := .double) (by decide +kernel) rfl rfl hM.mo (Nat.le_of_ble_eq_true rfl) (fs' := [.int X.th, .ref (K 1 0), .ref (K 2 0), .int (S.c 4), .int (S.c 5), .int (S.c 6), .int (S.c 9), .int (S.c 10), .int (S.c 8), .int (S.c 13), .int (S.c 7), .int (S.c 11), .int (S.c 14), .ref (K 3 0), .ref (K 4 0), .ref (K 5 0), .double X.ne, .int (nI X.T), .int X.il, .double FP.dconst0, .double X.v, .long X.sm]) rfl dX7_fly_60 ?_
  refine aw_re (P := fun μ1 => RM g K e0 S (X.wh FP.dconst0) μ1 ∧ FrM K S.nA S.nQ μ μ1) ⟨hM.setX (X.wh FP.dconst0) rfl rfl rfl, (FrM.rf : FrM K S.nA S.nQ μ μ).mpw (m0 (by decide))⟩ (fun μ1 hq => ?_)
  obtain ⟨hM1, hF1⟩ := hq
  refine aw_aload_n C dX7_fly_63 rfl ?_
  refine aw_dconst0 C dX7_fly_64 ?_
  refine aw_putE C f152 ftX7 (ty := .double) (by decide +kernel) rfl rfl hM1.mo (Nat.le_of_ble_eq_true rfl) (fs' := [.int ((X.wh FP.dconst0).th), .ref (K 1 0), .ref (K 2 0), .int (S.c 4), .int (S.c 5), .int (S.c 6), .int (S.c 9), .int (S.c 10), .int (S.c 8), .int (S.c 13), .int (S.c 7), .int (S.c 11), .int (S.c 14), .ref (K 3 0), .ref (K 4 0), .ref (K 5 0), .double ((X.wh FP.dconst0).ne), .int (nI (X.wh FP.dconst0).T), .int ((X.wh FP.dconst0).il), .double ((X.wh FP.dconst0).h), .double FP.dconst0, .long ((X.wh FP.dconst0).sm)]) rfl dX7_fly_65 ?_
  refine aw_re (P := fun μ1 => RM g K e0 S ((X.wh FP.dconst0).wv FP.dconst0) μ1 ∧ FrM K S.nA S.nQ μ μ1) ⟨hM1.setX ((X.wh FP.dconst0).wv FP.dconst0) rfl rfl rfl, hF1.mpw (m0 (by decide))⟩ (fun μ2 hq => ?_)
  obtain ⟨hM2, hF2⟩ := hq
  refine aw_lv (lv' := [(0, .ref (K 0 0)), (1, .ref (K 8 j)), (2, .ref (K 9 u)), (4, .int di), (7, .double ((tk0 (S.A j 0) (S.q u 0) (S.q u 1) sight (S.A j 3) (S.cr j)).2.2.2.1)), (9, .double ((tk0 (S.A j 0) (S.q u 0) (S.q u 1) sight (S.A j 3) (S.cr j)).2.2.2.2.1)), (11, .double ((tk0 (S.A j 0) (S.q u 0) (S.q u 1) sight (S.A j 3) (S.cr j)).2.2.2.2.2)), (13, .double ((tk0 (S.A j 0) (S.q u 0) (S.q u 1) sight (S.A j 3) (S.cr j)).1))]) ⟨rfl, rfl, rfl, rfl, rfl, rfl, rfl, rfl, trivial⟩ ?_
  have loop68 : ∀ (n : Nat) (t : Tk) (k : Nat) (μ1 : mu), 146 - k = n → k ≤ 146 → TkI k t → flN (S.c 5) di (150 - k) t = flN (S.c 5) di 150 (tk0 (S.A j 0) (S.q u 0) (S.q u 1) sight (S.A j 3) (S.cr j)) → RM g K e0 S ((X.wh t.2.2.1).wv t.2.1) μ1 → FrM K S.nA S.nQ μ μ1 → Aw p l e (rmOf 1 0 0 60) s m args below meth c Q s0.heap.size D 15 μ1 0 0 68 [(0, .ref (K 0 0)), (1, .ref (K 8 j)), (2, .ref (K 9 u)), (4, .int di), (7, .double t.2.2.2.1), (9, .double t.2.2.2.2.1), (11, .double t.2.2.2.2.2), (13, .double t.1)] [] := by
    intro n
    induction n using Nat.strongRecOn with
    | _ n ih =>
      intro t k μ1 hn hk hT hN hMl hFl
      refine aw_dload C dX7_fly_68 rfl ?_
      refine aw_iload C dX7_fly_70 rfl ?_
      refine aw_i2d C dX7_fly_72 ?_
      refine aw_dcmp C dX7_fly_73 ?_
      refine aw_if_ge C (tgt := 154) dX7_fly_74 (by decide) (fun c_74 => ?_) (fun c_74 => ?_)
      · refine aw_vret C hQe ?_ (by omega) (by omega) dX7_fly_154
        have e9 : flT S j u sight di = t := by unfold flT; rw [← hN, flN_end (fun q9 => absurd ((kv_ge0 (hT.nx hk) (i2d_nn di) .g).mp c_74) (by omega))]
        exact ⟨rfl, by unfold flH flV; rw [e9]; exact hMl, hFl⟩
      · have hlt : dk t.1 < dk (FP.i2d di) := Int.not_le.mp (fun q9 => c_74 ((kv_ge0 (hT.nx hk) (i2d_nn di) .g).mpr q9))
        obtain ⟨s1, s2, s3⟩ := fl_step hT hk hdi hN hlt
        have hb := tk_n hT hk (S.c 5)
        refine aw_dload C dX7_fly_77 rfl ?_
        refine aw_dload C dX7_fly_79 rfl ?_
        refine aw_ldc2d C k155 dX7_fly_81 ?_
        refine aw_ddiv C hb.1 dX7_fly_84 ?_
        refine aw_dadd C (s1.1.1.n (by omega)) dX7_fly_85 ?_
        refine aw_dstore C dX7_fly_86 (by decide) ?_
        refine aw_aload_n C dX7_fly_88 rfl ?_
        refine aw_aload_n C dX7_fly_89 rfl ?_
        refine aw_get C f152 hMl.mo rfl dX7_fly_90 ?_
        refine aw_dload C dX7_fly_93 rfl ?_
        refine aw_ldc2d C k155 dX7_fly_95 ?_
        refine aw_ddiv C hb.2.1 dX7_fly_98 ?_
        refine aw_dadd C (s1.1.2.1.n (by omega)) dX7_fly_99 ?_
        refine aw_putE C f152 ftX7 (ty := .double) (by decide +kernel) rfl rfl hMl.mo (Nat.le_of_ble_eq_true rfl) (fs' := [.int (((X.wh t.2.2.1).wv t.2.1).th), .ref (K 1 0), .ref (K 2 0), .int (S.c 4), .int (S.c 5), .int (S.c 6), .int (S.c 9), .int (S.c 10), .int (S.c 8), .int (S.c 13), .int (S.c 7), .int (S.c 11), .int (S.c 14), .ref (K 3 0), .ref (K 4 0), .ref (K 5 0), .double (((X.wh t.2.2.1).wv t.2.1).ne), .int (nI ((X.wh t.2.2.1).wv t.2.1).T), .int (((X.wh t.2.2.1).wv t.2.1).il), .double (((X.wh t.2.2.1).wv t.2.1).h), .double (FP.dadd (((X.wh t.2.2.1).wv t.2.1).v) (FP.ddiv t.2.2.2.2.1 4625196817309499392)), .long (((X.wh t.2.2.1).wv t.2.1).sm)]) rfl dX7_fly_100 ?_
        refine aw_re (P := fun μ1 => RM g K e0 S (((X.wh t.2.2.1).wv t.2.1).wv (FP.dadd (((X.wh t.2.2.1).wv t.2.1).v) (FP.ddiv t.2.2.2.2.1 4625196817309499392))) μ1 ∧ FrM K S.nA S.nQ μ μ1) ⟨hMl.setX (((X.wh t.2.2.1).wv t.2.1).wv (FP.dadd (((X.wh t.2.2.1).wv t.2.1).v) (FP.ddiv t.2.2.2.2.1 4625196817309499392))) rfl rfl rfl, hFl.mpw (m0 (by decide))⟩ (fun μ3 hq => ?_)
        obtain ⟨hM3, hF3⟩ := hq
        refine aw_aload_n C dX7_fly_103 rfl ?_
        refine aw_aload_n C dX7_fly_104 rfl ?_
        refine aw_get C f148 hM3.mo rfl dX7_fly_105 ?_
        refine aw_dload C dX7_fly_108 rfl ?_
        refine aw_ldc2d C k155 dX7_fly_110 ?_
        refine aw_ddiv C hb.2.2.1 dX7_fly_113 ?_
        refine aw_dadd C (s1.1.2.2.1.n (by omega)) dX7_fly_114 ?_
        refine aw_putE C f148 ftX7 (ty := .double) (by decide +kernel) rfl rfl hM3.mo (Nat.le_of_ble_eq_true rfl) (fs' := [.int ((((X.wh t.2.2.1).wv t.2.1).wv (FP.dadd (((X.wh t.2.2.1).wv t.2.1).v) (FP.ddiv t.2.2.2.2.1 4625196817309499392))).th), .ref (K 1 0), .ref (K 2 0), .int (S.c 4), .int (S.c 5), .int (S.c 6), .int (S.c 9), .int (S.c 10), .int (S.c 8), .int (S.c 13), .int (S.c 7), .int (S.c 11), .int (S.c 14), .ref (K 3 0), .ref (K 4 0), .ref (K 5 0), .double ((((X.wh t.2.2.1).wv t.2.1).wv (FP.dadd (((X.wh t.2.2.1).wv t.2.1).v) (FP.ddiv t.2.2.2.2.1 4625196817309499392))).ne), .int (nI (((X.wh t.2.2.1).wv t.2.1).wv (FP.dadd (((X.wh t.2.2.1).wv t.2.1).v) (FP.ddiv t.2.2.2.2.1 4625196817309499392))).T), .int ((((X.wh t.2.2.1).wv t.2.1).wv (FP.dadd (((X.wh t.2.2.1).wv t.2.1).v) (FP.ddiv t.2.2.2.2.1 4625196817309499392))).il), .double (FP.dadd ((((X.wh t.2.2.1).wv t.2.1).wv (FP.dadd (((X.wh t.2.2.1).wv t.2.1).v) (FP.ddiv t.2.2.2.2.1 4625196817309499392))).h) (FP.ddiv t.2.2.2.2.2 4625196817309499392)), .double ((((X.wh t.2.2.1).wv t.2.1).wv (FP.dadd (((X.wh t.2.2.1).wv t.2.1).v) (FP.ddiv t.2.2.2.2.1 4625196817309499392))).v), .long ((((X.wh t.2.2.1).wv t.2.1).wv (FP.dadd (((X.wh t.2.2.1).wv t.2.1).v) (FP.ddiv t.2.2.2.2.1 4625196817309499392))).sm)]) rfl dX7_fly_115 ?_
        refine aw_re (P := fun μ1 => RM g K e0 S ((((X.wh t.2.2.1).wv t.2.1).wv (FP.dadd (((X.wh t.2.2.1).wv t.2.1).v) (FP.ddiv t.2.2.2.2.1 4625196817309499392))).wh (FP.dadd ((((X.wh t.2.2.1).wv t.2.1).wv (FP.dadd (((X.wh t.2.2.1).wv t.2.1).v) (FP.ddiv t.2.2.2.2.1 4625196817309499392))).h) (FP.ddiv t.2.2.2.2.2 4625196817309499392))) μ1 ∧ FrM K S.nA S.nQ μ μ1) ⟨hM3.setX ((((X.wh t.2.2.1).wv t.2.1).wv (FP.dadd (((X.wh t.2.2.1).wv t.2.1).v) (FP.ddiv t.2.2.2.2.1 4625196817309499392))).wh (FP.dadd ((((X.wh t.2.2.1).wv t.2.1).wv (FP.dadd (((X.wh t.2.2.1).wv t.2.1).v) (FP.ddiv t.2.2.2.2.1 4625196817309499392))).h) (FP.ddiv t.2.2.2.2.2 4625196817309499392))) rfl rfl rfl, hF3.mpw (m0 (by decide))⟩ (fun μ4 hq => ?_)
        obtain ⟨hM4, hF4⟩ := hq
        refine aw_dload C dX7_fly_118 rfl ?_
        refine aw_dload C dX7_fly_120 rfl ?_
        refine aw_ldc2d C k146 dX7_fly_122 ?_
        refine aw_ddiv C hb.2.2.2.1 dX7_fly_125 ?_
        refine aw_dsub C (s1.1.2.2.2.1.n (by omega)) dX7_fly_126 ?_
        refine aw_dstore C dX7_fly_127 (by decide) ?_
        refine aw_dload C dX7_fly_129 rfl ?_
        refine aw_ldc2d C k157 dX7_fly_131 ?_
        refine aw_dsub C (s1.1.2.2.2.2.1.n (by omega)) dX7_fly_134 ?_
        refine aw_dstore C dX7_fly_135 (by decide) ?_
        refine aw_dload C dX7_fly_137 rfl ?_
        refine aw_aload_n C dX7_fly_139 rfl ?_
        refine aw_get C f131 hM4.mo rfl dX7_fly_140 ?_
        refine aw_i2d C dX7_fly_143 ?_
        refine aw_ldc2d C k159 dX7_fly_144 ?_
        refine aw_ddiv C hb.2.2.2.2 dX7_fly_147 ?_
        refine aw_dadd C (s1.1.2.2.2.2.2.n (by omega)) dX7_fly_148 ?_
        refine aw_dstore C dX7_fly_149 (by decide) ?_
        refine aw_goto C (tgt := 68) dX7_fly_151 (by decide) ?_
        refine aw_lv (lv' := [(0, .ref (K 0 0)), (1, .ref (K 8 j)), (2, .ref (K 9 u)), (4, .int di), (7, .double ((tk (S.c 5) t).2.2.2.1)), (9, .double ((tk (S.c 5) t).2.2.2.2.1)), (11, .double ((tk (S.c 5) t).2.2.2.2.2)), (13, .double ((tk (S.c 5) t).1))]) ⟨rfl, rfl, rfl, rfl, rfl, rfl, rfl, rfl, trivial⟩ ?_
        exact ih _ (by omega) (tk (S.c 5) t) (k + 1) _ rfl s2 s1 s3 hM4 hF4
  exact loop68 _ (tk0 (S.A j 0) (S.q u 0) (S.q u 1) sight (S.A j 3) (S.cr j)) 0 _ rfl (by decide) (tk0_I _ sight _ (hI.2.2.2.1 j hj).1 (hI.2.2.2.2.2.1 u hu) (hI.2.2.2.1 j hj).2.1) rfl hM2 hF2
end KM1
