theorem and31 (x : Int32) : ∃ k, k < 32 ∧ x &&& 31 = nI k := by
  refine ⟨(x.toBitVec &&& 31#32).toNat, ?_, ?_⟩
  · rw [BitVec.toNat_and]
    exact Nat.lt_of_le_of_lt Nat.and_le_right (by decide)
  · apply Int32.toBitVec_inj.mp
    rw [Int32.toBitVec_and]
    show x.toBitVec &&& 31#32 = BitVec.ofNat 32 _
    rw [BitVec.ofNat_toNat, BitVec.setWidth_eq]
/-! ===== the law: its loop, its start ===== -/
theorem ntX4 : (∀ k, k < 16 → parseFieldDescriptor (TX4 k).2.2.1 = some (tyX4 k)) ∧ ∀ k, k < 16 → defaultValue (tyX4 k) = vp_V [.null, .null, .int 0, .int 0, .int 0, .int 0, .int 0, .int 0, .int 0, .int 0, .int 0, .int 0, .null, .int 0, .int 0, .null] k := by
  refine ⟨fun k hk => ?_, fun k hk => ?_⟩
  · rcases k with _ | k
    · decide +kernel
    rcases k with _ | k
    · decide +kernel
    rcases k with _ | k
    · decide +kernel
    rcases k with _ | k
    · decide +kernel
    rcases k with _ | k
    · decide +kernel
    rcases k with _ | k
    · decide +kernel
    rcases k with _ | k
    · decide +kernel
    rcases k with _ | k
    · decide +kernel
    rcases k with _ | k
    · decide +kernel
    rcases k with _ | k
    · decide +kernel
    rcases k with _ | k
    · decide +kernel
    rcases k with _ | k
    · decide +kernel
    rcases k with _ | k
    · decide +kernel
    rcases k with _ | k
    · decide +kernel
    rcases k with _ | k
    · decide +kernel
    rcases k with _ | k
    · decide +kernel
    omega
  · rcases k with _ | k
    · rfl
    rcases k with _ | k
    · rfl
    rcases k with _ | k
    · rfl
    rcases k with _ | k
    · rfl
    rcases k with _ | k
    · rfl
    rcases k with _ | k
    · rfl
    rcases k with _ | k
    · rfl
    rcases k with _ | k
    · rfl
    rcases k with _ | k
    · rfl
    rcases k with _ | k
    · rfl
    rcases k with _ | k
    · rfl
    rcases k with _ | k
    · rfl
    rcases k with _ | k
    · rfl
    rcases k with _ | k
    · rfl
    rcases k with _ | k
    · rfl
    rcases k with _ | k
    · rfl
    omega
theorem ntX7 : (∀ k, k < 22 → parseFieldDescriptor (TX7 k).2.2.1 = some (tyX7 k)) ∧ ∀ k, k < 22 → defaultValue (tyX7 k) = vp_V [.int 0, .null, .null, .int 0, .int 0, .int 0, .int 0, .int 0, .int 0, .int 0, .int 0, .int 0, .int 0, .null, .null, .null, .double 0, .int 0, .int 0, .double 0, .double 0, .long 0] k := by
  refine ⟨fun k hk => ?_, fun k hk => ?_⟩
  · rcases k with _ | k
    · decide +kernel
    rcases k with _ | k
    · decide +kernel
    rcases k with _ | k
    · decide +kernel
    rcases k with _ | k
    · decide +kernel
    rcases k with _ | k
    · decide +kernel
    rcases k with _ | k
    · decide +kernel
    rcases k with _ | k
    · decide +kernel
    rcases k with _ | k
    · decide +kernel
    rcases k with _ | k
    · decide +kernel
    rcases k with _ | k
    · decide +kernel
    rcases k with _ | k
    · decide +kernel
    rcases k with _ | k
    · decide +kernel
    rcases k with _ | k
    · decide +kernel
    rcases k with _ | k
    · decide +kernel
    rcases k with _ | k
    · decide +kernel
    rcases k with _ | k
    · decide +kernel
    rcases k with _ | k
    · decide +kernel
    rcases k with _ | k
    · decide +kernel
    rcases k with _ | k
    · decide +kernel
    rcases k with _ | k
    · decide +kernel
    rcases k with _ | k
    · decide +kernel
    rcases k with _ | k
    · decide +kernel
    omega
  · rcases k with _ | k
    · rfl
    rcases k with _ | k
    · rfl
    rcases k with _ | k
    · rfl
    rcases k with _ | k
    · rfl
    rcases k with _ | k
    · rfl
    rcases k with _ | k
    · rfl
    rcases k with _ | k
    · rfl
    rcases k with _ | k
    · rfl
    rcases k with _ | k
    · rfl
    rcases k with _ | k
    · rfl
    rcases k with _ | k
    · rfl
    rcases k with _ | k
    · rfl
    rcases k with _ | k
    · rfl
    rcases k with _ | k
    · rfl
    rcases k with _ | k
    · rfl
    rcases k with _ | k
    · rfl
    rcases k with _ | k
    · rfl
    rcases k with _ | k
    · rfl
    rcases k with _ | k
    · rfl
    rcases k with _ | k
    · rfl
    rcases k with _ | k
    · rfl
    rcases k with _ | k
    · rfl
    omega
theorem sub4 {a b : Nat} (ha : a ≤ 2048) (hb : b ≤ 2052) : nI a - 4 < nI b ↔ a < b + 4 := by
  rcases (show a < 4 ∨ 4 ≤ a by omega) with q | q
  · refine ⟨fun _ => by omega, fun _ => ?_⟩
    have h0 : nI a - 4 < 0 := by rcases (show a = 0 ∨ a = 1 ∨ a = 2 ∨ a = 3 by omega) with rfl | rfl | rfl | rfl <;> decide
    exact Int32.lt_of_lt_of_le h0 (nI_pos' (by omega))
  · obtain ⟨k, rfl⟩ : ∃ k, a = k + 4 := ⟨a - 4, by omega⟩
    have e : nI (k + 4) - 4 = nI k := by
      rw [← nI_i4]
      show nI k + 4 - 4 = nI k
      rw [Int32.add_sub_cancel]
    rw [e, nI_ltI (by omega) (by omega)]
    omega
set_option maxRecDepth 100000 in
set_option maxHeartbeats 4000000 in
theorem la_loop {p : Program} {l : Launch} {e : Env} {s : State} {m : MethodId} {below : List Frame} {meth : Method} {c : Code} {Q : State → Prop} {D : va_G} {g : Nat → ClassId} {b0 Ln : Nat} {xs : Nat → Int32} {e0 : Nat} (hl9 : l.stackTraces = false) (H9 : LB s) (bl : BL s g e0) (C : Cx p s m #[Value.ref b0] meth c code RL 9 wsL_law ret s.heap.size D (tyL g)) (hE : EN s s) (hXs : va_X b0 Ln xs s s.heap) (hbl : b0 < s.heap.size) (hLn : Ln ≤ 2048) {L : Nat → Nat → Nat} {o3 o4 a2 : Nat} (hend : ∀ (μ : mu) (cells slots : Nat) (lv : List (Nat × Value)), cells ≤ 601024 → slots ≤ 7293034 → Aw p l e room_1 s m #[Value.ref b0] below meth c Q s.heap.size D 9 μ cells slots 1785 lv [.int 1]) : ∀ (n q : Nat) (K : Nat → Nat → Nat) (S : SS) (μ : mu), Ln < 4 * q + 4 + n → 4 * q ≤ Ln → K 0 0 = a2 → LwI g e0 L K S o3 o4 q μ → Aw p l e room_1 s m #[Value.ref b0] below meth c Q s.heap.size D 9 μ (100 + 640 * q) (1000 + 4300 * q) 28 [(0, .ref b0), (1, .ref (L 0 0)), (2, .ref (K 0 0)), (3, .ref o3), (4, .ref o4), (5, .int (nI (4 * q)))] [] := by
  intro n
  induction n using Nat.strongRecOn with
  | _ n ih =>
    intro q K S μ hn hq hK hW
    refine aw_iload C dL_law_28 rfl ?_
    refine aw_aload_n C dL_law_30 rfl ?_
    refine aw_slen C hXs hbl dL_law_31 ?_
    refine aw_iconst C (v := 4) (by decide) dL_law_32 ?_
    refine aw_isub C dL_law_33 ?_
    refine aw_icmp_gt C (tgt := 1784) dL_law_34 (by decide) (fun c_34 => ?_) (fun c_34 => ?_)
    · refine aw_iconst C (v := 1) (by decide) dL_law_1784 ?_
      exact hend _ _ _ _ (by omega) (by omega)
    · have hq4 : 4 * q + 4 ≤ Ln := by rw [sub4 hLn (by omega)] at c_34; omega
      have nx : ∀ (K' : Nat → Nat → Nat) (S' : SS) (μ' : mu), K' 0 0 = K 0 0 → LwI g e0 L K' S' o3 o4 (q + 1) μ' → Aw p l e room_1 s m #[Value.ref b0] below meth c Q s.heap.size D 9 μ' (100 + 640 * (q + 1)) (1000 + 4300 * (q + 1)) 28 [(0, .ref b0), (1, .ref (L 0 0)), (2, .ref (K 0 0)), (3, .ref o3), (4, .ref o4), (5, .int (nI (4 * (q + 1))))] [] := fun K' S' μ' h1 h2 => by
        rw [← h1]
        exact ih (n - 4) (by omega) (q + 1) K' S' μ' (by omega) (by omega) (h1.trans hK) h2
      refine aw_aload_n C dL_law_37 rfl ?_
      refine aw_iload C dL_law_38 rfl ?_
      refine aw_sld C hXs hbl (k := 4 * q) (by omega) hLn dL_law_40 ?_
      refine aw_bipush C (v := 31) (by decide) dL_law_41 ?_
      refine aw_iand C dL_law_43 ?_
      rcases and31 (xs (4 * q)) with ⟨k, hk, e9⟩
      refine aw_eqi (y := nI k) e9 ?_
      rcases (show 27 ≤ k ∨ k = 0 ∨ k = 1 ∨ k = 2 ∨ k = 3 ∨ k = 4 ∨ k = 5 ∨ k = 6 ∨ k = 7 ∨ k = 8 ∨ k = 9 ∨ k = 10 ∨ k = 11 ∨ k = 12 ∨ k = 13 ∨ k = 14 ∨ k = 15 ∨ k = 16 ∨ k = 17 ∨ k = 18 ∨ k = 19 ∨ k = 20 ∨ k = 21 ∨ k = 22 ∨ k = 23 ∨ k = 24 ∨ k = 25 ∨ k = 26 by omega) with h | rfl | rfl | rfl | rfl | rfl | rfl | rfl | rfl | rfl | rfl | rfl | rfl | rfl | rfl | rfl | rfl | rfl | rfl | rfl | rfl | rfl | rfl | rfl | rfl | rfl | rfl | rfl
      · refine aw_tableOut C (tgt := 1778) dL_law_44 (Or.inr (by rw [nI_toInt (by omega)]; omega)) (by decide) ?_
        refine aw_iinc C dL_law_1778 rfl (by decide) ?_
        refine aw_goto C (tgt := 28) dL_law_1781 (by decide) ?_
        refine aw_widen (n := 100 + 640 * (q + 1)) (k := 1000 + 4300 * (q + 1)) (by omega) (by omega) ?_
        refine aw_lv (lv' := [(0, .ref b0), (1, .ref (L 0 0)), (2, .ref (K 0 0)), (3, .ref o3), (4, .ref o4), (5, .int (nI (4 * (q + 1))))]) ⟨rfl, rfl, rfl, rfl, rfl, by rw [show 4 * (q + 1) = 4 * q + 4 by omega, ← nI_i4]; rfl, trivial⟩ ?_
        obtain ⟨g1, ⟨X, hM, hR⟩, g2, g3⟩ := hW
        exact nx K S μ rfl ⟨g1, ⟨X, hM, hR.up (Nat.le_succ q)⟩, g2, g3⟩
      · exact aw_tableIn C (off := 124) (tgt := 168) dL_law_44 (by decide +kernel) (by decide +kernel) (by decide +kernel) (by decide) (lc_0 hl9 H9 bl C hE hXs hbl hLn hq4 hW nx)
      · exact aw_tableIn C (off := 192) (tgt := 236) dL_law_44 (by decide +kernel) (by decide +kernel) (by decide +kernel) (by decide) (lc_1 hl9 H9 bl C hE hXs hbl hLn hq4 hW nx)
      · exact aw_tableIn C (off := 260) (tgt := 304) dL_law_44 (by decide +kernel) (by decide +kernel) (by decide +kernel) (by decide) (lc_2 hl9 H9 bl C hE hXs hbl hLn hq4 hW nx)
      · exact aw_tableIn C (off := 328) (tgt := 372) dL_law_44 (by decide +kernel) (by decide +kernel) (by decide +kernel) (by decide) (lc_3 hl9 H9 bl C hE hXs hbl hLn hq4 hW nx)
      · exact aw_tableIn C (off := 408) (tgt := 452) dL_law_44 (by decide +kernel) (by decide +kernel) (by decide +kernel) (by decide) (lc_4 hl9 H9 bl C hE hXs hbl hLn hq4 hW nx)
      · exact aw_tableIn C (off := 485) (tgt := 529) dL_law_44 (by decide +kernel) (by decide +kernel) (by decide +kernel) (by decide) (lc_5 hl9 H9 bl C hE hXs hbl hLn hq4 hW nx)
      · exact aw_tableIn C (off := 565) (tgt := 609) dL_law_44 (by decide +kernel) (by decide +kernel) (by decide +kernel) (by decide) (lc_6 hl9 H9 bl C hE hXs hbl hLn hq4 hW nx)
      · exact aw_tableIn C (off := 621) (tgt := 665) dL_law_44 (by decide +kernel) (by decide +kernel) (by decide +kernel) (by decide) (lc_7 hl9 H9 bl C hE hXs hbl hLn hq4 hW nx)
      · exact aw_tableIn C (off := 689) (tgt := 733) dL_law_44 (by decide +kernel) (by decide +kernel) (by decide +kernel) (by decide) (lc_8 hl9 H9 bl C hE hXs hbl hLn hq4 hW nx)
      · exact aw_tableIn C (off := 702) (tgt := 746) dL_law_44 (by decide +kernel) (by decide +kernel) (by decide +kernel) (by decide) (lc_9 hl9 H9 bl C hE hXs hbl hLn hq4 hW nx)
      · exact aw_tableIn C (off := 758) (tgt := 802) dL_law_44 (by decide +kernel) (by decide +kernel) (by decide +kernel) (by decide) (lc_10 hl9 H9 bl C hE hXs hbl hLn hq4 hW nx)
      · exact aw_tableIn C (off := 826) (tgt := 870) dL_law_44 (by decide +kernel) (by decide +kernel) (by decide +kernel) (by decide) (lc_11 hl9 H9 bl C hE hXs hbl hLn hq4 hW nx)
      · exact aw_tableIn C (off := 870) (tgt := 914) dL_law_44 (by decide +kernel) (by decide +kernel) (by decide +kernel) (by decide) (lc_12 hl9 H9 bl C hE hXs hbl hLn hq4 hW nx)
      · exact aw_tableIn C (off := 911) (tgt := 955) dL_law_44 (by decide +kernel) (by decide +kernel) (by decide +kernel) (by decide) (lc_13 hl9 H9 bl C hE hXs hbl hLn hq4 hW nx)
      · exact aw_tableIn C (off := 924) (tgt := 968) dL_law_44 (by decide +kernel) (by decide +kernel) (by decide +kernel) (by decide) (lc_14 hl9 H9 bl C hE hXs hbl hLn hq4 hW nx)
      · exact aw_tableIn C (off := 992) (tgt := 1036) dL_law_44 (by decide +kernel) (by decide +kernel) (by decide +kernel) (by decide) (lc_15 hl9 H9 bl C hE hXs hbl hLn hq4 hW nx)
      · exact aw_tableIn C (off := 1069) (tgt := 1113) dL_law_44 (by decide +kernel) (by decide +kernel) (by decide +kernel) (by decide) (lc_16 hl9 H9 bl C hE hXs hbl hLn hq4 hW nx)
      · exact aw_tableIn C (off := 1137) (tgt := 1181) dL_law_44 (by decide +kernel) (by decide +kernel) (by decide +kernel) (by decide) (lc_17 hl9 H9 bl C hE hXs hbl hLn hq4 hW nx)
      · exact aw_tableIn C (off := 1254) (tgt := 1298) dL_law_44 (by decide +kernel) (by decide +kernel) (by decide +kernel) (by decide) (lc_18 hl9 H9 bl C hE hXs hbl hLn hq4 hW nx)
      · exact aw_tableIn C (off := 1310) (tgt := 1354) dL_law_44 (by decide +kernel) (by decide +kernel) (by decide +kernel) (by decide) (lc_19 hl9 H9 bl C hE hXs hbl hLn hq4 hW nx)
      · exact aw_tableIn C (off := 1366) (tgt := 1410) dL_law_44 (by decide +kernel) (by decide +kernel) (by decide +kernel) (by decide) (lc_20 hl9 H9 bl C hE hXs hbl hLn hq4 hW nx)
      · exact aw_tableIn C (off := 1379) (tgt := 1423) dL_law_44 (by decide +kernel) (by decide +kernel) (by decide +kernel) (by decide) (lc_21 hl9 H9 bl C hE hXs hbl hLn hq4 hW nx)
      · exact aw_tableIn C (off := 1496) (tgt := 1540) dL_law_44 (by decide +kernel) (by decide +kernel) (by decide +kernel) (by decide) (lc_22 hl9 H9 bl C hE hXs hbl hLn hq4 hW nx)
      · exact aw_tableIn C (off := 1552) (tgt := 1596) dL_law_44 (by decide +kernel) (by decide +kernel) (by decide +kernel) (by decide) (lc_23 hl9 H9 bl C hE hXs hbl hLn hq4 hW nx)
      · exact aw_tableIn C (off := 1608) (tgt := 1652) dL_law_44 (by decide +kernel) (by decide +kernel) (by decide +kernel) (by decide) (lc_24 hl9 H9 bl C hE hXs hbl hLn hq4 hW nx)
      · exact aw_tableIn C (off := 1664) (tgt := 1708) dL_law_44 (by decide +kernel) (by decide +kernel) (by decide +kernel) (by decide) (lc_25 hl9 H9 bl C hE hXs hbl hLn hq4 hW nx)
      · exact aw_tableIn C (off := 1720) (tgt := 1764) dL_law_44 (by decide +kernel) (by decide +kernel) (by decide +kernel) (by decide) (lc_26 hl9 H9 bl C hE hXs hbl hLn hq4 hW nx)
set_option maxRecDepth 100000 in
set_option maxHeartbeats 4000000 in
theorem la_start {p : Program} {l : Launch} {e : Env} {s : State} {m : MethodId} {below : List Frame} {meth : Method} {c : Code} {Q : State → Prop} {D : va_G} {g : Nat → ClassId} {b0 Ln : Nat} {xs : Nat → Int32} {e0 : Nat} (hl9 : l.stackTraces = false) (H9 : LB s) (bl : BL s g e0) (C : Cx p s m #[Value.ref b0] meth c code RL 9 wsL_law ret s.heap.size D (tyL g)) (hE : EN s s) (hXs : va_X b0 Ln xs s s.heap) (hbl : b0 < s.heap.size) (hLn : Ln ≤ 2048) (nx : ∀ (L K : Nat → Nat → Nat) (o3 o4 : Nat) (μ : mu), LwI g e0 L K S0 o3 o4 0 μ → Aw p l e room_1 s m #[Value.ref b0] below meth c Q s.heap.size D 9 μ (100 + 640 * 0) (1000 + 4300 * 0) 28 [(0, .ref b0), (1, .ref (L 0 0)), (2, .ref (K 0 0)), (3, .ref o3), (4, .ref o4), (5, .int (nI (4 * 0)))] []) : Aw p l e room_1 s m #[Value.ref b0] below meth c Q s.heap.size D 9 (fun _ => none) 0 0 0 [(0, .ref b0)] [] := by
  have in_RX4 : ∀ w ∈ u_ws RX4 TX4 16, w ∈ wsL_law := by decide +kernel
  have in_RX7 : ∀ w ∈ u_ws RX7 TX7 22, w ∈ wsL_law := by decide +kernel
  refine aw_new C (ci := 6) (fs := [.null, .null, .int 0, .int 0, .int 0, .int 0, .int 0, .int 0, .int 0, .int 0, .int 0, .int 0, .null, .int 0, .int 0, .null]) in_RX4 tyX4 ntX4.1 (by decide +kernel) (by decide +kernel) (by decide +kernel) rfl ntX4.2 (by decide) (by decide) dL_law_0 (fun a1 z1 f1 => ?_)
  refine aw_dup C rfl dL_law_3 ?_
  refine aw_callI (n := 0) C hE (k_X4_init H9.B mp_s) ggL_law_X4_init (by decide +kernel) (by decide +kernel) (by decide +kernel) rfl rfl ⟨rfl, rfl⟩ (by decide +kernel) ⟨by decide, by decide⟩ rfl rfl (Nat.le_of_ble_eq_true rfl) dL_law_4 ⟨by decide, by decide⟩ (fun v μ' hp => ?_)
  obtain ⟨rfl, L, rfl, hX1, hKp1, hfr1⟩ := hp
  refine aw_re (P := fun μz => RX g L S0 μz) hX1 (fun μ1 hX1 => ?_)
  refine aw_st (st' := [.ref (L 0 0)]) rfl ?_
  refine aw_astore_n C dL_law_7 (by decide) ?_
  refine aw_new C (ci := 9) (fs := [.int 0, .null, .null, .int 0, .int 0, .int 0, .int 0, .int 0, .int 0, .int 0, .int 0, .int 0, .int 0, .null, .null, .null, .double 0, .int 0, .int 0, .double 0, .double 0, .long 0]) in_RX7 tyX7 ntX7.1 (by decide +kernel) (by decide +kernel) (by decide +kernel) rfl ntX7.2 (by decide) (by decide) dL_law_8 (fun a2 z2 f2 => ?_)
  refine aw_dup C rfl dL_law_11 ?_
  refine aw_callI (n := 0) C hE (k_X7_init H9.B bl mp_s) ggL_law_X7_init (by decide +kernel) (by decide +kernel) (by decide +kernel) rfl rfl ⟨rfl, rfl⟩ (by decide +kernel) ⟨by decide, by decide⟩ rfl rfl (Nat.le_of_ble_eq_true rfl) dL_law_12 ⟨by decide, by decide⟩ (fun v μ' hp => ?_)
  obtain ⟨rfl, K, hK0, ⟨X, hM2, hR2, -⟩, hKp2, hfr2⟩ := hp
  have k2 : ∀ b x, μ1 b = some x → μ' b = some x := fun b x hb => hKp2 b x (mp_k hb (nn_ne f2 hb)) (nn_ne f2 hb)
  have hX2 : RX g L S0 μ' := hX1.kp (fun k i e _ h => k2 _ _ h)
  have hD : ∀ k i k' i', vC k i → vM 0 0 k' i' → L k i ≠ K k' i' := fun k i k' i' hv hv' => by
    obtain ⟨x, hx⟩ := hX1.some hv
    obtain ⟨hk, hi⟩ := vM00 hv'
    by_cases z : k' = 0
    · rw [z, hi, hK0]; exact nn_ne f2 hx
    · exact nn_ne (mp_none (hfr2 k' i' hv' z)).1 hx
  subst hK0
  refine aw_re (P := fun μz => RX g L S0 μz ∧ RM g K e0 S0 X μz) ⟨hX2, hM2⟩ (fun μ2 hq => ?_)
  obtain ⟨hX2, hM2⟩ := hq
  refine aw_st (st' := [.ref (K 0 0)]) rfl ?_
  refine aw_astore_n C dL_law_15 (by decide) ?_
  refine aw_iconst C (v := 1) (by decide) dL_law_16 ?_
  refine aw_newJ C (N := 1) (by decide +kernel) (by decide) (by decide) (by decide) (by decide) (by decide) dL_law_17 (fun o3 z3 f3 => ?_)
  refine aw_astore_n C dL_law_19 (by decide) ?_
  refine aw_iconst C (v := 1) (by decide) dL_law_20 ?_
  refine aw_newD C (N := 1) (by decide +kernel) (by decide) (by decide) (by decide) (by decide) (by decide) dL_law_21 (fun o4 z4 f4 => ?_)
  refine aw_astore C dL_law_23 (by decide) ?_
  refine aw_iconst C (v := 0) (by decide) dL_law_25 ?_
  refine aw_istore C dL_law_26 (by decide) ?_
  refine aw_widen (n := 100 + 640 * 0) (k := 1000 + 4300 * 0) (by decide) (by decide) ?_
  refine aw_lv (lv' := [(0, .ref b0), (1, .ref (L 0 0)), (2, .ref (K 0 0)), (3, .ref o3), (4, .ref o4), (5, .int (nI (4 * 0)))]) ⟨rfl, rfl, rfl, rfl, rfl, rfl, trivial⟩ ?_
  have q3 {k i : Nat} (hv : vC k i) : ∃ x, mp μ2 o3 (eJ g 1 (fun _ => 0)) (L k i) = some x := by
    obtain ⟨x, hx⟩ := hX2.some hv
    exact ⟨x, mp_k hx (nn_ne f3 hx)⟩
  refine nx L K o3 o4 _ ⟨hX2.kp (fun k i e _ h => mp_k (mp_k h (nn_ne f3 h)) (nn_ne f4 (mp_k h (nn_ne f3 h)))), ⟨X, (hM2.nw f3).nw f4, hR2⟩, Iv_S0, hD, ⟨_, mp_k mp_s (nn_ne f4 mp_s)⟩, ⟨_, mp_s⟩, fun k i hv => ?_, fun k i hv => ?_, hM2.nk f3, (hM2.nw f3).nk f4, nn_ne f4 mp_s⟩
  · obtain ⟨x, hx⟩ := hX2.some hv
    exact (nn_ne f3 hx).symm
  · obtain ⟨x, hx⟩ := q3 hv
    exact (nn_ne f4 hx).symm
