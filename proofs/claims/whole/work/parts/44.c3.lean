/-! ===== the law: a call of the script ===== -/
set_option maxRecDepth 100000 in
set_option maxHeartbeats 4000000 in
theorem lc_21 {p : Program} {l : Launch} {e : Env} {s : State} {m : MethodId} {below : List Frame} {meth : Method} {c : Code} {Q : State → Prop} {D : va_G} {g : Nat → ClassId} {b0 Ln : Nat} {xs : Nat → Int32} {e0 o3 o4 q : Nat} {L K : Nat → Nat → Nat} {S : SS} {μ : mu} (hl9 : l.stackTraces = false) (H9 : LB s) (bl : BL s g e0) (C : Cx p s m #[Value.ref b0] meth c code RL 9 wsL_law ret s.heap.size D (tyL g)) (hE : EN s s) (hXs : va_X b0 Ln xs s s.heap) (hbl : b0 < s.heap.size) (hLn : Ln ≤ 2048) (hq : 4 * q + 4 ≤ Ln) (hW : LwI g e0 L K S o3 o4 q μ) (nx : ∀ (K' : Nat → Nat → Nat) (S' : SS) (μ' : mu), K' 0 0 = K 0 0 → LwI g e0 L K' S' o3 o4 (q + 1) μ' → Aw p l e room_1 s m #[Value.ref b0] below meth c Q s.heap.size D 9 μ' (100 + 640 * (q + 1)) (1000 + 4300 * (q + 1)) 28 [(0, .ref b0), (1, .ref (L 0 0)), (2, .ref (K 0 0)), (3, .ref o3), (4, .ref o4), (5, .int (nI (4 * (q + 1))))] []) : Aw p l e room_1 s m #[Value.ref b0] below meth c Q s.heap.size D 9 μ (100 + 640 * q) (1000 + 4300 * q) 1423 [(0, .ref b0), (1, .ref (L 0 0)), (2, .ref (K 0 0)), (3, .ref o3), (4, .ref o4), (5, .int (nI (4 * q)))] [] := by
  obtain ⟨hX0, ⟨X, hM0, hR0⟩, hI, hD, ⟨f3, h3⟩, ⟨f4, h4⟩, n3, n4, m3, m4, n34⟩ := id hW
  have hq2 : q < 2 ^ 30 := by omega
  refine aw_aload_n C dL_law_1423 rfl ?_
  refine aw_aload_n C dL_law_1424 rfl ?_
  refine aw_iload C dL_law_1425 rfl ?_
  refine aw_iconst C (v := 1) (by decide) dL_law_1427 ?_
  refine aw_iadd C dL_law_1428 ?_
  refine aw_eqi (y := nI (4 * q + 1)) (nI_1 _) ?_
  refine aw_sld C hXs hbl (k := 4 * q + 1) (by omega) hLn dL_law_1429 ?_
  refine aw_aload_n C dL_law_1430 rfl ?_
  refine aw_iload C dL_law_1431 rfl ?_
  refine aw_iconst C (v := 2) (by decide) dL_law_1433 ?_
  refine aw_iadd C dL_law_1434 ?_
  refine aw_eqi (y := nI (4 * q + 2)) (nI_a2 _) ?_
  refine aw_sld C hXs hbl (k := 4 * q + 2) (by omega) hLn dL_law_1435 ?_
  refine aw_aload_n C dL_law_1436 rfl ?_
  refine aw_iload C dL_law_1437 rfl ?_
  refine aw_iconst C (v := 3) (by decide) dL_law_1439 ?_
  refine aw_iadd C dL_law_1440 ?_
  refine aw_eqi (y := nI (4 * q + 3)) (nI_a3 _) ?_
  refine aw_sld C hXs hbl (k := 4 * q + 3) (by omega) hLn dL_law_1441 ?_
  refine aw_if_eq C (tgt := 1449) dL_law_1442 (by decide) (fun c_1442 => ?_) (fun c_1442 => ?_)
  · refine aw_iconst C (v := 0) (by decide) dL_law_1449 ?_
    refine aw_aload C dL_law_1450 rfl ?_
    refine aw_callSX (n := 5) C hE (k_L_wouldHit (x := xs (4 * q + 1)) (w := xs (4 * q + 2)) (b := 0) hl9 H9 hX0 hI h4 n4) gL_law_L_wouldHit rfl ⟨rfl, rfl⟩ (by decide +kernel) ⟨by decide, by decide⟩ rfl rfl (Nat.le_of_ble_eq_true rfl) dL_law_1452 ⟨by show _ ≤ 601024; omega, by show _ ≤ 7293034; omega⟩ (fun _ _ h => h) (fun v μ1 hp => ?_)
    obtain ⟨rfl, hX1, ⟨f1, ho1, hf1⟩, hF1⟩ := hp
    have hM1 := hW.moved hM0 hF1 (Or.inr rfl)
    have hf4 : ∃ f : Nat → UInt64, μ1 o4 = some (eD g 1 f) := ⟨f1, ho1⟩
    have hf3 : ∃ f : Nat → Int64, μ1 o3 = some (eJ g 1 f) := ⟨f3, hF1 _ _ h3 n3 n34⟩
    refine aw_st (st' := [.int (nI (whC S (xs (4 * q + 1)) (xs (4 * q + 2))))]) rfl ?_
    refine aw_istore C dL_law_1455 (by decide) ?_
    refine aw_aload_n C dL_law_1457 rfl ?_
    refine aw_aload_n C dL_law_1458 rfl ?_
    refine aw_iload C dL_law_1459 rfl ?_
    refine aw_iconst C (v := 1) (by decide) dL_law_1461 ?_
    refine aw_iadd C dL_law_1462 ?_
    refine aw_eqi (y := nI (4 * q + 1)) (nI_1 _) ?_
    refine aw_sld C hXs hbl (k := 4 * q + 1) (by omega) hLn dL_law_1463 ?_
    refine aw_aload_n C dL_law_1464 rfl ?_
    refine aw_iload C dL_law_1465 rfl ?_
    refine aw_iconst C (v := 2) (by decide) dL_law_1467 ?_
    refine aw_iadd C dL_law_1468 ?_
    refine aw_eqi (y := nI (4 * q + 2)) (nI_a2 _) ?_
    refine aw_sld C hXs hbl (k := 4 * q + 2) (by omega) hLn dL_law_1469 ?_
    refine aw_aload_n C dL_law_1470 rfl ?_
    refine aw_iload C dL_law_1471 rfl ?_
    refine aw_iconst C (v := 3) (by decide) dL_law_1473 ?_
    refine aw_iadd C dL_law_1474 ?_
    refine aw_eqi (y := nI (4 * q + 3)) (nI_a3 _) ?_
    refine aw_sld C hXs hbl (k := 4 * q + 3) (by omega) hLn dL_law_1475 ?_
    refine aw_if_eq C (tgt := 1483) dL_law_1476 (by decide) (fun _ => ?_) (fun c9 => absurd c_1442 c9)
    refine aw_iconst C (v := 0) (by decide) dL_law_1483 ?_
    refine aw_callV (n := 3) C hE (ci := 9) (q := (RX7, TX7, 22)) (k_X7_wouldHit (x := xs (4 * q + 1)) (w := xs (4 * q + 2)) (b9 := 0) H9.B hM1 hI hR0) gL_law_X7_wouldHit rfl ⟨rfl, rfl⟩ (by decide +kernel) ⟨by decide, by decide⟩ rfl rfl hM1.mo rfl (Nat.le_of_ble_eq_true rfl) dL_law_1484 ⟨by show _ ≤ 601024; omega, by show _ ≤ 7293034; omega⟩ (fun v μ2 hp => ?_)
    obtain ⟨⟨r, rfl, hr⟩, ⟨X2, hM2, hR2, hth2⟩, hF2⟩ := hp
    have hW2 : LwI g e0 L K (if whC S (xs (4 * q + 1)) (xs (4 * q + 2)) = 0 then S else S) o3 o4 (q + 1) μ2 := hW.step (ifn ⟨rfl, rfl⟩) (ifI (fun _ => hI) hI) hX1 hf3 hf4 hM2 (hR2.up (by omega)) hF2
    have ho2 := hF2 _ _ ho1 m4
    refine aw_st (st' := [.double r]) rfl ?_
    refine aw_dstore C dL_law_1487 (by decide) ?_
    refine aw_aload_n C dL_law_1489 rfl ?_
    refine aw_callV (n := 0) C hE (ci := 9) (q := (RX7, TX7, 22)) (k_X7_thrown H9.B hM2) gL_law_X7_thrown rfl ⟨rfl, rfl⟩ (by decide +kernel) ⟨by decide, by decide⟩ rfl rfl hM2.mo rfl (Nat.le_of_ble_eq_true rfl) dL_law_1490 ⟨by show _ ≤ 601024; omega, by show _ ≤ 7293034; omega⟩ (fun v μ3 hp => ?_)
    obtain ⟨rfl, hm9⟩ := hp
    replace hm9 := hm9.symm
    subst hm9
    refine aw_st (st' := [.int X2.th]) rfl ?_
    refine aw_eqi (y := nI (whC S (xs (4 * q + 1)) (xs (4 * q + 2)))) hth2 ?_
    refine aw_iload C dL_law_1493 rfl ?_
    refine aw_icmp_eq C (tgt := 1500) dL_law_1495 (by decide) (fun _ => ?_) (fun c9 => absurd rfl c9)
    refine aw_iload C dL_law_1500 rfl ?_
    refine aw_if_ne C (tgt := 1537) dL_law_1502 (by decide) (fun c_1502 => ?_) (fun c_1502 => ?_)
    · refine aw_goto C (tgt := 1778) dL_law_1537 (by decide) ?_
      refine aw_iinc C dL_law_1778 rfl (by decide) ?_
      refine aw_goto C (tgt := 28) dL_law_1781 (by decide) ?_
      refine aw_widen (n := 100 + 640 * (q + 1)) (k := 1000 + 4300 * (q + 1)) (by omega) (by omega) ?_
      refine aw_lv (lv' := [(0, .ref b0), (1, .ref (L 0 0)), (2, .ref (K 0 0)), (3, .ref o3), (4, .ref o4), (5, .int (nI (4 * (q + 1))))]) ⟨rfl, rfl, rfl, rfl, rfl, by rw [show 4 * (q + 1) = 4 * q + 4 by omega, ← nI_i4]; rfl, trivial⟩ ?_
      exact nx K (if whC S (xs (4 * q + 1)) (xs (4 * q + 2)) = 0 then S else S) _ rfl hW2
    · have hc0 : whC S (xs (4 * q + 1)) (xs (4 * q + 2)) = 0 := nI_inj (b := 0) lt_wh (by decide) c_1502
      refine aw_aload C dL_law_1505 rfl ?_
      refine aw_iconst C (v := 0) (by decide) dL_law_1507 ?_
      refine aw_daldE C ho2 (by decide : (0 : Int32) = nI 0) ⟨by decide, by decide⟩ rfl dL_law_1508 ?_
      refine aw_dload C dL_law_1509 rfl ?_
      refine aw_dcmp C dL_law_1511 ?_
      refine aw_eqi (y := 0) (by rw [hf1 hc0, hr hc0]; exact (kv_eq0 (nn_wh hI _ hc0) (nn_wh hI _ hc0) .l).mpr rfl) ?_
      refine aw_if_eq C (tgt := 1537) dL_law_1512 (by decide) (fun _ => ?_) (fun c9 => absurd (by decide) c9)
      refine aw_goto C (tgt := 1778) dL_law_1537 (by decide) ?_
      refine aw_iinc C dL_law_1778 rfl (by decide) ?_
      refine aw_goto C (tgt := 28) dL_law_1781 (by decide) ?_
      refine aw_widen (n := 100 + 640 * (q + 1)) (k := 1000 + 4300 * (q + 1)) (by omega) (by omega) ?_
      refine aw_lv (lv' := [(0, .ref b0), (1, .ref (L 0 0)), (2, .ref (K 0 0)), (3, .ref o3), (4, .ref o4), (5, .int (nI (4 * (q + 1))))]) ⟨rfl, rfl, rfl, rfl, rfl, by rw [show 4 * (q + 1) = 4 * q + 4 by omega, ← nI_i4]; rfl, trivial⟩ ?_
      exact nx K (if whC S (xs (4 * q + 1)) (xs (4 * q + 2)) = 0 then S else S) _ rfl hW2
  · refine aw_iconst C (v := 1) (by decide) dL_law_1445 ?_
    refine aw_goto C (tgt := 1450) dL_law_1446 (by decide) ?_
    refine aw_aload C dL_law_1450 rfl ?_
    refine aw_callSX (n := 5) C hE (k_L_wouldHit (x := xs (4 * q + 1)) (w := xs (4 * q + 2)) (b := 1) hl9 H9 hX0 hI h4 n4) gL_law_L_wouldHit rfl ⟨rfl, rfl⟩ (by decide +kernel) ⟨by decide, by decide⟩ rfl rfl (Nat.le_of_ble_eq_true rfl) dL_law_1452 ⟨by show _ ≤ 601024; omega, by show _ ≤ 7293034; omega⟩ (fun _ _ h => h) (fun v μ1 hp => ?_)
    obtain ⟨rfl, hX1, ⟨f1, ho1, hf1⟩, hF1⟩ := hp
    have hM1 := hW.moved hM0 hF1 (Or.inr rfl)
    have hf4 : ∃ f : Nat → UInt64, μ1 o4 = some (eD g 1 f) := ⟨f1, ho1⟩
    have hf3 : ∃ f : Nat → Int64, μ1 o3 = some (eJ g 1 f) := ⟨f3, hF1 _ _ h3 n3 n34⟩
    refine aw_st (st' := [.int (nI (whC S (xs (4 * q + 1)) (xs (4 * q + 2))))]) rfl ?_
    refine aw_istore C dL_law_1455 (by decide) ?_
    refine aw_aload_n C dL_law_1457 rfl ?_
    refine aw_aload_n C dL_law_1458 rfl ?_
    refine aw_iload C dL_law_1459 rfl ?_
    refine aw_iconst C (v := 1) (by decide) dL_law_1461 ?_
    refine aw_iadd C dL_law_1462 ?_
    refine aw_eqi (y := nI (4 * q + 1)) (nI_1 _) ?_
    refine aw_sld C hXs hbl (k := 4 * q + 1) (by omega) hLn dL_law_1463 ?_
    refine aw_aload_n C dL_law_1464 rfl ?_
    refine aw_iload C dL_law_1465 rfl ?_
    refine aw_iconst C (v := 2) (by decide) dL_law_1467 ?_
    refine aw_iadd C dL_law_1468 ?_
    refine aw_eqi (y := nI (4 * q + 2)) (nI_a2 _) ?_
    refine aw_sld C hXs hbl (k := 4 * q + 2) (by omega) hLn dL_law_1469 ?_
    refine aw_aload_n C dL_law_1470 rfl ?_
    refine aw_iload C dL_law_1471 rfl ?_
    refine aw_iconst C (v := 3) (by decide) dL_law_1473 ?_
    refine aw_iadd C dL_law_1474 ?_
    refine aw_eqi (y := nI (4 * q + 3)) (nI_a3 _) ?_
    refine aw_sld C hXs hbl (k := 4 * q + 3) (by omega) hLn dL_law_1475 ?_
    refine aw_if_eq C (tgt := 1483) dL_law_1476 (by decide) (fun c9 => absurd c9 c_1442) (fun _ => ?_)
    refine aw_iconst C (v := 1) (by decide) dL_law_1479 ?_
    refine aw_goto C (tgt := 1484) dL_law_1480 (by decide) ?_
    refine aw_callV (n := 3) C hE (ci := 9) (q := (RX7, TX7, 22)) (k_X7_wouldHit (x := xs (4 * q + 1)) (w := xs (4 * q + 2)) (b9 := 1) H9.B hM1 hI hR0) gL_law_X7_wouldHit rfl ⟨rfl, rfl⟩ (by decide +kernel) ⟨by decide, by decide⟩ rfl rfl hM1.mo rfl (Nat.le_of_ble_eq_true rfl) dL_law_1484 ⟨by show _ ≤ 601024; omega, by show _ ≤ 7293034; omega⟩ (fun v μ2 hp => ?_)
    obtain ⟨⟨r, rfl, hr⟩, ⟨X2, hM2, hR2, hth2⟩, hF2⟩ := hp
    have hW2 : LwI g e0 L K (if whC S (xs (4 * q + 1)) (xs (4 * q + 2)) = 0 then S else S) o3 o4 (q + 1) μ2 := hW.step (ifn ⟨rfl, rfl⟩) (ifI (fun _ => hI) hI) hX1 hf3 hf4 hM2 (hR2.up (by omega)) hF2
    have ho2 := hF2 _ _ ho1 m4
    refine aw_st (st' := [.double r]) rfl ?_
    refine aw_dstore C dL_law_1487 (by decide) ?_
    refine aw_aload_n C dL_law_1489 rfl ?_
    refine aw_callV (n := 0) C hE (ci := 9) (q := (RX7, TX7, 22)) (k_X7_thrown H9.B hM2) gL_law_X7_thrown rfl ⟨rfl, rfl⟩ (by decide +kernel) ⟨by decide, by decide⟩ rfl rfl hM2.mo rfl (Nat.le_of_ble_eq_true rfl) dL_law_1490 ⟨by show _ ≤ 601024; omega, by show _ ≤ 7293034; omega⟩ (fun v μ3 hp => ?_)
    obtain ⟨rfl, hm9⟩ := hp
    replace hm9 := hm9.symm
    subst hm9
    refine aw_st (st' := [.int X2.th]) rfl ?_
    refine aw_eqi (y := nI (whC S (xs (4 * q + 1)) (xs (4 * q + 2)))) hth2 ?_
    refine aw_iload C dL_law_1493 rfl ?_
    refine aw_icmp_eq C (tgt := 1500) dL_law_1495 (by decide) (fun _ => ?_) (fun c9 => absurd rfl c9)
    refine aw_iload C dL_law_1500 rfl ?_
    refine aw_if_ne C (tgt := 1537) dL_law_1502 (by decide) (fun c_1502 => ?_) (fun c_1502 => ?_)
    · refine aw_goto C (tgt := 1778) dL_law_1537 (by decide) ?_
      refine aw_iinc C dL_law_1778 rfl (by decide) ?_
      refine aw_goto C (tgt := 28) dL_law_1781 (by decide) ?_
      refine aw_widen (n := 100 + 640 * (q + 1)) (k := 1000 + 4300 * (q + 1)) (by omega) (by omega) ?_
      refine aw_lv (lv' := [(0, .ref b0), (1, .ref (L 0 0)), (2, .ref (K 0 0)), (3, .ref o3), (4, .ref o4), (5, .int (nI (4 * (q + 1))))]) ⟨rfl, rfl, rfl, rfl, rfl, by rw [show 4 * (q + 1) = 4 * q + 4 by omega, ← nI_i4]; rfl, trivial⟩ ?_
      exact nx K (if whC S (xs (4 * q + 1)) (xs (4 * q + 2)) = 0 then S else S) _ rfl hW2
    · have hc0 : whC S (xs (4 * q + 1)) (xs (4 * q + 2)) = 0 := nI_inj (b := 0) lt_wh (by decide) c_1502
      refine aw_aload C dL_law_1505 rfl ?_
      refine aw_iconst C (v := 0) (by decide) dL_law_1507 ?_
      refine aw_daldE C ho2 (by decide : (0 : Int32) = nI 0) ⟨by decide, by decide⟩ rfl dL_law_1508 ?_
      refine aw_dload C dL_law_1509 rfl ?_
      refine aw_dcmp C dL_law_1511 ?_
      refine aw_eqi (y := 0) (by rw [hf1 hc0, hr hc0]; exact (kv_eq0 (nn_wh hI _ hc0) (nn_wh hI _ hc0) .l).mpr rfl) ?_
      refine aw_if_eq C (tgt := 1537) dL_law_1512 (by decide) (fun _ => ?_) (fun c9 => absurd (by decide) c9)
      refine aw_goto C (tgt := 1778) dL_law_1537 (by decide) ?_
      refine aw_iinc C dL_law_1778 rfl (by decide) ?_
      refine aw_goto C (tgt := 28) dL_law_1781 (by decide) ?_
      refine aw_widen (n := 100 + 640 * (q + 1)) (k := 1000 + 4300 * (q + 1)) (by omega) (by omega) ?_
      refine aw_lv (lv' := [(0, .ref b0), (1, .ref (L 0 0)), (2, .ref (K 0 0)), (3, .ref o3), (4, .ref o4), (5, .int (nI (4 * (q + 1))))]) ⟨rfl, rfl, rfl, rfl, rfl, by rw [show 4 * (q + 1) = 4 * q + 4 by omega, ← nI_i4]; rfl, trivial⟩ ?_
      exact nx K (if whC S (xs (4 * q + 1)) (xs (4 * q + 2)) = 0 then S else S) _ rfl hW2
set_option maxRecDepth 100000 in
set_option maxHeartbeats 4000000 in
theorem lc_22 {p : Program} {l : Launch} {e : Env} {s : State} {m : MethodId} {below : List Frame} {meth : Method} {c : Code} {Q : State → Prop} {D : va_G} {g : Nat → ClassId} {b0 Ln : Nat} {xs : Nat → Int32} {e0 o3 o4 q : Nat} {L K : Nat → Nat → Nat} {S : SS} {μ : mu} (hl9 : l.stackTraces = false) (H9 : LB s) (bl : BL s g e0) (C : Cx p s m #[Value.ref b0] meth c code RL 9 wsL_law ret s.heap.size D (tyL g)) (hE : EN s s) (hXs : va_X b0 Ln xs s s.heap) (hbl : b0 < s.heap.size) (hLn : Ln ≤ 2048) (hq : 4 * q + 4 ≤ Ln) (hW : LwI g e0 L K S o3 o4 q μ) (nx : ∀ (K' : Nat → Nat → Nat) (S' : SS) (μ' : mu), K' 0 0 = K 0 0 → LwI g e0 L K' S' o3 o4 (q + 1) μ' → Aw p l e room_1 s m #[Value.ref b0] below meth c Q s.heap.size D 9 μ' (100 + 640 * (q + 1)) (1000 + 4300 * (q + 1)) 28 [(0, .ref b0), (1, .ref (L 0 0)), (2, .ref (K 0 0)), (3, .ref o3), (4, .ref o4), (5, .int (nI (4 * (q + 1))))] []) : Aw p l e room_1 s m #[Value.ref b0] below meth c Q s.heap.size D 9 μ (100 + 640 * q) (1000 + 4300 * q) 1540 [(0, .ref b0), (1, .ref (L 0 0)), (2, .ref (K 0 0)), (3, .ref o3), (4, .ref o4), (5, .int (nI (4 * q)))] [] := by
  obtain ⟨hX0, ⟨X, hM0, hR0⟩, hI, hD, ⟨f3, h3⟩, ⟨f4, h4⟩, n3, n4, m3, m4, n34⟩ := id hW
  have hq2 : q < 2 ^ 30 := by omega
  refine aw_aload_n C dL_law_1540 rfl ?_
  refine aw_aload_n C dL_law_1541 rfl ?_
  refine aw_iload C dL_law_1542 rfl ?_
  refine aw_iconst C (v := 1) (by decide) dL_law_1544 ?_
  refine aw_iadd C dL_law_1545 ?_
  refine aw_eqi (y := nI (4 * q + 1)) (nI_1 _) ?_
  refine aw_sld C hXs hbl (k := 4 * q + 1) (by omega) hLn dL_law_1546 ?_
  refine aw_aload_n C dL_law_1547 rfl ?_
  refine aw_callSX (n := 3) C hE (k_L_mark (x := xs (4 * q + 1)) hl9 H9 hX0 hI h3 n3) gL_law_L_mark rfl ⟨rfl, rfl⟩ (by decide +kernel) ⟨by decide, by decide⟩ rfl rfl (Nat.le_of_ble_eq_true rfl) dL_law_1548 ⟨by show _ ≤ 601024; omega, by show _ ≤ 7293034; omega⟩ (fun _ _ h => h) (fun v μ1 hp => ?_)
  obtain ⟨rfl, hX1, ⟨f1, ho1, hf1⟩, hF1⟩ := hp
  have hM1 := hW.moved hM0 hF1 (Or.inl rfl)
  have hf3 : ∃ f : Nat → Int64, μ1 o3 = some (eJ g 1 f) := ⟨f1, ho1⟩
  have hf4 : ∃ f : Nat → UInt64, μ1 o4 = some (eD g 1 f) := ⟨f4, hF1 _ _ h4 n4 n34.symm⟩
  refine aw_st (st' := [.int (nI (rdC S (xs (4 * q + 1))))]) rfl ?_
  refine aw_istore C dL_law_1551 (by decide) ?_
  refine aw_aload_n C dL_law_1553 rfl ?_
  refine aw_aload_n C dL_law_1554 rfl ?_
  refine aw_iload C dL_law_1555 rfl ?_
  refine aw_iconst C (v := 1) (by decide) dL_law_1557 ?_
  refine aw_iadd C dL_law_1558 ?_
  refine aw_eqi (y := nI (4 * q + 1)) (nI_1 _) ?_
  refine aw_sld C hXs hbl (k := 4 * q + 1) (by omega) hLn dL_law_1559 ?_
  refine aw_callV (n := 1) C hE (ci := 9) (q := (RX7, TX7, 22)) (k_X7_mark (x := xs (4 * q + 1)) H9.B hM1 hI hR0) gL_law_X7_mark rfl ⟨rfl, rfl⟩ (by decide +kernel) ⟨by decide, by decide⟩ rfl rfl hM1.mo rfl (Nat.le_of_ble_eq_true rfl) dL_law_1560 ⟨by show _ ≤ 601024; omega, by show _ ≤ 7293034; omega⟩ (fun v μ2 hp => ?_)
  obtain ⟨⟨r, rfl, hr⟩, ⟨X2, hM2, hR2, hth2⟩, hF2⟩ := hp
  have hW2 : LwI g e0 L K (if rdC S (xs (4 * q + 1)) = 0 then S else S) o3 o4 (q + 1) μ2 := hW.step (ifn ⟨rfl, rfl⟩) (ifI (fun _ => hI) hI) hX1 hf3 hf4 hM2 (hR2.up (by omega)) hF2
  have ho2 := hF2 _ _ ho1 m3
  refine aw_st (st' := [.int r]) rfl ?_
  refine aw_istore C dL_law_1563 (by decide) ?_
  refine aw_aload_n C dL_law_1565 rfl ?_
  refine aw_callV (n := 0) C hE (ci := 9) (q := (RX7, TX7, 22)) (k_X7_thrown H9.B hM2) gL_law_X7_thrown rfl ⟨rfl, rfl⟩ (by decide +kernel) ⟨by decide, by decide⟩ rfl rfl hM2.mo rfl (Nat.le_of_ble_eq_true rfl) dL_law_1566 ⟨by show _ ≤ 601024; omega, by show _ ≤ 7293034; omega⟩ (fun v μ3 hp => ?_)
  obtain ⟨rfl, hm9⟩ := hp
  replace hm9 := hm9.symm
  subst hm9
  refine aw_st (st' := [.int X2.th]) rfl ?_
  refine aw_eqi (y := nI (rdC S (xs (4 * q + 1)))) hth2 ?_
  refine aw_iload C dL_law_1569 rfl ?_
  refine aw_icmp_eq C (tgt := 1576) dL_law_1571 (by decide) (fun _ => ?_) (fun c9 => absurd rfl c9)
  refine aw_iload C dL_law_1576 rfl ?_
  refine aw_if_ne C (tgt := 1593) dL_law_1578 (by decide) (fun c_1578 => ?_) (fun c_1578 => ?_)
  · refine aw_goto C (tgt := 1778) dL_law_1593 (by decide) ?_
    refine aw_iinc C dL_law_1778 rfl (by decide) ?_
    refine aw_goto C (tgt := 28) dL_law_1781 (by decide) ?_
    refine aw_widen (n := 100 + 640 * (q + 1)) (k := 1000 + 4300 * (q + 1)) (by omega) (by omega) ?_
    refine aw_lv (lv' := [(0, .ref b0), (1, .ref (L 0 0)), (2, .ref (K 0 0)), (3, .ref o3), (4, .ref o4), (5, .int (nI (4 * (q + 1))))]) ⟨rfl, rfl, rfl, rfl, rfl, by rw [show 4 * (q + 1) = 4 * q + 4 by omega, ← nI_i4]; rfl, trivial⟩ ?_
    exact nx K (if rdC S (xs (4 * q + 1)) = 0 then S else S) _ rfl hW2
  · have hc0 : rdC S (xs (4 * q + 1)) = 0 := nI_inj (b := 0) lt_rd (by decide) c_1578
    refine aw_aload_n C dL_law_1581 rfl ?_
    refine aw_iconst C (v := 0) (by decide) dL_law_1582 ?_
    refine aw_laldE C ho2 (by decide : (0 : Int32) = nI 0) ⟨by decide, by decide⟩ rfl dL_law_1583 ?_
    refine aw_iload C dL_law_1584 rfl ?_
    refine aw_i2l C dL_law_1586 ?_
    refine aw_lcmp C dL_law_1587 ?_
    refine aw_eqi (y := 0) (by rw [hf1 hc0, hr hc0]; exact lg_self _) ?_
    refine aw_if_eq C (tgt := 1593) dL_law_1588 (by decide) (fun _ => ?_) (fun c9 => absurd (by decide) c9)
    refine aw_goto C (tgt := 1778) dL_law_1593 (by decide) ?_
    refine aw_iinc C dL_law_1778 rfl (by decide) ?_
    refine aw_goto C (tgt := 28) dL_law_1781 (by decide) ?_
    refine aw_widen (n := 100 + 640 * (q + 1)) (k := 1000 + 4300 * (q + 1)) (by omega) (by omega) ?_
    refine aw_lv (lv' := [(0, .ref b0), (1, .ref (L 0 0)), (2, .ref (K 0 0)), (3, .ref o3), (4, .ref o4), (5, .int (nI (4 * (q + 1))))]) ⟨rfl, rfl, rfl, rfl, rfl, by rw [show 4 * (q + 1) = 4 * q + 4 by omega, ← nI_i4]; rfl, trivial⟩ ?_
    exact nx K (if rdC S (xs (4 * q + 1)) = 0 then S else S) _ rfl hW2
set_option maxRecDepth 100000 in
set_option maxHeartbeats 4000000 in
theorem lc_23 {p : Program} {l : Launch} {e : Env} {s : State} {m : MethodId} {below : List Frame} {meth : Method} {c : Code} {Q : State → Prop} {D : va_G} {g : Nat → ClassId} {b0 Ln : Nat} {xs : Nat → Int32} {e0 o3 o4 q : Nat} {L K : Nat → Nat → Nat} {S : SS} {μ : mu} (hl9 : l.stackTraces = false) (H9 : LB s) (bl : BL s g e0) (C : Cx p s m #[Value.ref b0] meth c code RL 9 wsL_law ret s.heap.size D (tyL g)) (hE : EN s s) (hXs : va_X b0 Ln xs s s.heap) (hbl : b0 < s.heap.size) (hLn : Ln ≤ 2048) (hq : 4 * q + 4 ≤ Ln) (hW : LwI g e0 L K S o3 o4 q μ) (nx : ∀ (K' : Nat → Nat → Nat) (S' : SS) (μ' : mu), K' 0 0 = K 0 0 → LwI g e0 L K' S' o3 o4 (q + 1) μ' → Aw p l e room_1 s m #[Value.ref b0] below meth c Q s.heap.size D 9 μ' (100 + 640 * (q + 1)) (1000 + 4300 * (q + 1)) 28 [(0, .ref b0), (1, .ref (L 0 0)), (2, .ref (K 0 0)), (3, .ref o3), (4, .ref o4), (5, .int (nI (4 * (q + 1))))] []) : Aw p l e room_1 s m #[Value.ref b0] below meth c Q s.heap.size D 9 μ (100 + 640 * q) (1000 + 4300 * q) 1596 [(0, .ref b0), (1, .ref (L 0 0)), (2, .ref (K 0 0)), (3, .ref o3), (4, .ref o4), (5, .int (nI (4 * q)))] [] := by
  obtain ⟨hX0, ⟨X, hM0, hR0⟩, hI, hD, ⟨f3, h3⟩, ⟨f4, h4⟩, n3, n4, m3, m4, n34⟩ := id hW
  have hq2 : q < 2 ^ 30 := by omega
  refine aw_aload_n C dL_law_1596 rfl ?_
  refine aw_aload_n C dL_law_1597 rfl ?_
  refine aw_iload C dL_law_1598 rfl ?_
  refine aw_iconst C (v := 1) (by decide) dL_law_1600 ?_
  refine aw_iadd C dL_law_1601 ?_
  refine aw_eqi (y := nI (4 * q + 1)) (nI_1 _) ?_
  refine aw_sld C hXs hbl (k := 4 * q + 1) (by omega) hLn dL_law_1602 ?_
  refine aw_aload_n C dL_law_1603 rfl ?_
  refine aw_callSX (n := 3) C hE (k_L_best (x := xs (4 * q + 1)) hl9 H9 hX0 hI h3 n3) gL_law_L_best rfl ⟨rfl, rfl⟩ (by decide +kernel) ⟨by decide, by decide⟩ rfl rfl (Nat.le_of_ble_eq_true rfl) dL_law_1604 ⟨by show _ ≤ 601024; omega, by show _ ≤ 7293034; omega⟩ (fun _ _ h => h) (fun v μ1 hp => ?_)
  obtain ⟨rfl, hX1, ⟨f1, ho1, hf1⟩, hF1⟩ := hp
  have hM1 := hW.moved hM0 hF1 (Or.inl rfl)
  have hf3 : ∃ f : Nat → Int64, μ1 o3 = some (eJ g 1 f) := ⟨f1, ho1⟩
  have hf4 : ∃ f : Nat → UInt64, μ1 o4 = some (eD g 1 f) := ⟨f4, hF1 _ _ h4 n4 n34.symm⟩
  refine aw_st (st' := [.int (nI (stC S (xs (4 * q + 1))))]) rfl ?_
  refine aw_istore C dL_law_1607 (by decide) ?_
  refine aw_aload_n C dL_law_1609 rfl ?_
  refine aw_aload_n C dL_law_1610 rfl ?_
  refine aw_iload C dL_law_1611 rfl ?_
  refine aw_iconst C (v := 1) (by decide) dL_law_1613 ?_
  refine aw_iadd C dL_law_1614 ?_
  refine aw_eqi (y := nI (4 * q + 1)) (nI_1 _) ?_
  refine aw_sld C hXs hbl (k := 4 * q + 1) (by omega) hLn dL_law_1615 ?_
  refine aw_callV (n := 1) C hE (ci := 9) (q := (RX7, TX7, 22)) (k_X7_best (x := xs (4 * q + 1)) H9.B hM1 hI hR0) gL_law_X7_best rfl ⟨rfl, rfl⟩ (by decide +kernel) ⟨by decide, by decide⟩ rfl rfl hM1.mo rfl (Nat.le_of_ble_eq_true rfl) dL_law_1616 ⟨by show _ ≤ 601024; omega, by show _ ≤ 7293034; omega⟩ (fun v μ2 hp => ?_)
  obtain ⟨⟨r, rfl, hr⟩, ⟨X2, hM2, hR2, hth2⟩, hF2⟩ := hp
  have hW2 : LwI g e0 L K (if stC S (xs (4 * q + 1)) = 0 then S else S) o3 o4 (q + 1) μ2 := hW.step (ifn ⟨rfl, rfl⟩) (ifI (fun _ => hI) hI) hX1 hf3 hf4 hM2 (hR2.up (by omega)) hF2
  have ho2 := hF2 _ _ ho1 m3
  refine aw_st (st' := [.int r]) rfl ?_
  refine aw_istore C dL_law_1619 (by decide) ?_
  refine aw_aload_n C dL_law_1621 rfl ?_
  refine aw_callV (n := 0) C hE (ci := 9) (q := (RX7, TX7, 22)) (k_X7_thrown H9.B hM2) gL_law_X7_thrown rfl ⟨rfl, rfl⟩ (by decide +kernel) ⟨by decide, by decide⟩ rfl rfl hM2.mo rfl (Nat.le_of_ble_eq_true rfl) dL_law_1622 ⟨by show _ ≤ 601024; omega, by show _ ≤ 7293034; omega⟩ (fun v μ3 hp => ?_)
  obtain ⟨rfl, hm9⟩ := hp
  replace hm9 := hm9.symm
  subst hm9
  refine aw_st (st' := [.int X2.th]) rfl ?_
  refine aw_eqi (y := nI (stC S (xs (4 * q + 1)))) hth2 ?_
  refine aw_iload C dL_law_1625 rfl ?_
  refine aw_icmp_eq C (tgt := 1632) dL_law_1627 (by decide) (fun _ => ?_) (fun c9 => absurd rfl c9)
  refine aw_iload C dL_law_1632 rfl ?_
  refine aw_if_ne C (tgt := 1649) dL_law_1634 (by decide) (fun c_1634 => ?_) (fun c_1634 => ?_)
  · refine aw_goto C (tgt := 1778) dL_law_1649 (by decide) ?_
    refine aw_iinc C dL_law_1778 rfl (by decide) ?_
    refine aw_goto C (tgt := 28) dL_law_1781 (by decide) ?_
    refine aw_widen (n := 100 + 640 * (q + 1)) (k := 1000 + 4300 * (q + 1)) (by omega) (by omega) ?_
    refine aw_lv (lv' := [(0, .ref b0), (1, .ref (L 0 0)), (2, .ref (K 0 0)), (3, .ref o3), (4, .ref o4), (5, .int (nI (4 * (q + 1))))]) ⟨rfl, rfl, rfl, rfl, rfl, by rw [show 4 * (q + 1) = 4 * q + 4 by omega, ← nI_i4]; rfl, trivial⟩ ?_
    exact nx K (if stC S (xs (4 * q + 1)) = 0 then S else S) _ rfl hW2
  · have hc0 : stC S (xs (4 * q + 1)) = 0 := nI_inj (b := 0) lt_st (by decide) c_1634
    refine aw_aload_n C dL_law_1637 rfl ?_
    refine aw_iconst C (v := 0) (by decide) dL_law_1638 ?_
    refine aw_laldE C ho2 (by decide : (0 : Int32) = nI 0) ⟨by decide, by decide⟩ rfl dL_law_1639 ?_
    refine aw_iload C dL_law_1640 rfl ?_
    refine aw_i2l C dL_law_1642 ?_
    refine aw_lcmp C dL_law_1643 ?_
    refine aw_eqi (y := 0) (by rw [hf1 hc0, hr hc0]; exact lg_self _) ?_
    refine aw_if_eq C (tgt := 1649) dL_law_1644 (by decide) (fun _ => ?_) (fun c9 => absurd (by decide) c9)
    refine aw_goto C (tgt := 1778) dL_law_1649 (by decide) ?_
    refine aw_iinc C dL_law_1778 rfl (by decide) ?_
    refine aw_goto C (tgt := 28) dL_law_1781 (by decide) ?_
    refine aw_widen (n := 100 + 640 * (q + 1)) (k := 1000 + 4300 * (q + 1)) (by omega) (by omega) ?_
    refine aw_lv (lv' := [(0, .ref b0), (1, .ref (L 0 0)), (2, .ref (K 0 0)), (3, .ref o3), (4, .ref o4), (5, .int (nI (4 * (q + 1))))]) ⟨rfl, rfl, rfl, rfl, rfl, by rw [show 4 * (q + 1) = 4 * q + 4 by omega, ← nI_i4]; rfl, trivial⟩ ?_
    exact nx K (if stC S (xs (4 * q + 1)) = 0 then S else S) _ rfl hW2
set_option maxRecDepth 100000 in
set_option maxHeartbeats 4000000 in
theorem lc_24 {p : Program} {l : Launch} {e : Env} {s : State} {m : MethodId} {below : List Frame} {meth : Method} {c : Code} {Q : State → Prop} {D : va_G} {g : Nat → ClassId} {b0 Ln : Nat} {xs : Nat → Int32} {e0 o3 o4 q : Nat} {L K : Nat → Nat → Nat} {S : SS} {μ : mu} (hl9 : l.stackTraces = false) (H9 : LB s) (bl : BL s g e0) (C : Cx p s m #[Value.ref b0] meth c code RL 9 wsL_law ret s.heap.size D (tyL g)) (hE : EN s s) (hXs : va_X b0 Ln xs s s.heap) (hbl : b0 < s.heap.size) (hLn : Ln ≤ 2048) (hq : 4 * q + 4 ≤ Ln) (hW : LwI g e0 L K S o3 o4 q μ) (nx : ∀ (K' : Nat → Nat → Nat) (S' : SS) (μ' : mu), K' 0 0 = K 0 0 → LwI g e0 L K' S' o3 o4 (q + 1) μ' → Aw p l e room_1 s m #[Value.ref b0] below meth c Q s.heap.size D 9 μ' (100 + 640 * (q + 1)) (1000 + 4300 * (q + 1)) 28 [(0, .ref b0), (1, .ref (L 0 0)), (2, .ref (K 0 0)), (3, .ref o3), (4, .ref o4), (5, .int (nI (4 * (q + 1))))] []) : Aw p l e room_1 s m #[Value.ref b0] below meth c Q s.heap.size D 9 μ (100 + 640 * q) (1000 + 4300 * q) 1652 [(0, .ref b0), (1, .ref (L 0 0)), (2, .ref (K 0 0)), (3, .ref o3), (4, .ref o4), (5, .int (nI (4 * q)))] [] := by
  obtain ⟨hX0, ⟨X, hM0, hR0⟩, hI, hD, ⟨f3, h3⟩, ⟨f4, h4⟩, n3, n4, m3, m4, n34⟩ := id hW
  have hq2 : q < 2 ^ 30 := by omega
  refine aw_aload_n C dL_law_1652 rfl ?_
  refine aw_aload_n C dL_law_1653 rfl ?_
  refine aw_iload C dL_law_1654 rfl ?_
  refine aw_iconst C (v := 1) (by decide) dL_law_1656 ?_
  refine aw_iadd C dL_law_1657 ?_
  refine aw_eqi (y := nI (4 * q + 1)) (nI_1 _) ?_
  refine aw_sld C hXs hbl (k := 4 * q + 1) (by omega) hLn dL_law_1658 ?_
  refine aw_aload_n C dL_law_1659 rfl ?_
  refine aw_callSX (n := 3) C hE (k_L_reach (x := xs (4 * q + 1)) hl9 H9 hX0 hI h3 n3) gL_law_L_reach rfl ⟨rfl, rfl⟩ (by decide +kernel) ⟨by decide, by decide⟩ rfl rfl (Nat.le_of_ble_eq_true rfl) dL_law_1660 ⟨by show _ ≤ 601024; omega, by show _ ≤ 7293034; omega⟩ (fun _ _ h => h) (fun v μ1 hp => ?_)
  obtain ⟨rfl, hX1, ⟨f1, ho1, hf1⟩, hF1⟩ := hp
  have hM1 := hW.moved hM0 hF1 (Or.inl rfl)
  have hf3 : ∃ f : Nat → Int64, μ1 o3 = some (eJ g 1 f) := ⟨f1, ho1⟩
  have hf4 : ∃ f : Nat → UInt64, μ1 o4 = some (eD g 1 f) := ⟨f4, hF1 _ _ h4 n4 n34.symm⟩
  refine aw_st (st' := [.int (nI (rdC S (xs (4 * q + 1))))]) rfl ?_
  refine aw_istore C dL_law_1663 (by decide) ?_
  refine aw_aload_n C dL_law_1665 rfl ?_
  refine aw_aload_n C dL_law_1666 rfl ?_
  refine aw_iload C dL_law_1667 rfl ?_
  refine aw_iconst C (v := 1) (by decide) dL_law_1669 ?_
  refine aw_iadd C dL_law_1670 ?_
  refine aw_eqi (y := nI (4 * q + 1)) (nI_1 _) ?_
  refine aw_sld C hXs hbl (k := 4 * q + 1) (by omega) hLn dL_law_1671 ?_
  refine aw_callV (n := 1) C hE (ci := 9) (q := (RX7, TX7, 22)) (k_X7_reach (x := xs (4 * q + 1)) H9.B hM1 hI hR0) gL_law_X7_reach rfl ⟨rfl, rfl⟩ (by decide +kernel) ⟨by decide, by decide⟩ rfl rfl hM1.mo rfl (Nat.le_of_ble_eq_true rfl) dL_law_1672 ⟨by show _ ≤ 601024; omega, by show _ ≤ 7293034; omega⟩ (fun v μ2 hp => ?_)
  obtain ⟨⟨r, rfl, hr⟩, ⟨X2, hM2, hR2, hth2⟩, hF2⟩ := hp
  have hW2 : LwI g e0 L K (if rdC S (xs (4 * q + 1)) = 0 then S else S) o3 o4 (q + 1) μ2 := hW.step (ifn ⟨rfl, rfl⟩) (ifI (fun _ => hI) hI) hX1 hf3 hf4 hM2 (hR2.up (by omega)) hF2
  have ho2 := hF2 _ _ ho1 m3
  refine aw_st (st' := [.int r]) rfl ?_
  refine aw_istore C dL_law_1675 (by decide) ?_
  refine aw_aload_n C dL_law_1677 rfl ?_
  refine aw_callV (n := 0) C hE (ci := 9) (q := (RX7, TX7, 22)) (k_X7_thrown H9.B hM2) gL_law_X7_thrown rfl ⟨rfl, rfl⟩ (by decide +kernel) ⟨by decide, by decide⟩ rfl rfl hM2.mo rfl (Nat.le_of_ble_eq_true rfl) dL_law_1678 ⟨by show _ ≤ 601024; omega, by show _ ≤ 7293034; omega⟩ (fun v μ3 hp => ?_)
  obtain ⟨rfl, hm9⟩ := hp
  replace hm9 := hm9.symm
  subst hm9
  refine aw_st (st' := [.int X2.th]) rfl ?_
  refine aw_eqi (y := nI (rdC S (xs (4 * q + 1)))) hth2 ?_
  refine aw_iload C dL_law_1681 rfl ?_
  refine aw_icmp_eq C (tgt := 1688) dL_law_1683 (by decide) (fun _ => ?_) (fun c9 => absurd rfl c9)
  refine aw_iload C dL_law_1688 rfl ?_
  refine aw_if_ne C (tgt := 1705) dL_law_1690 (by decide) (fun c_1690 => ?_) (fun c_1690 => ?_)
  · refine aw_goto C (tgt := 1778) dL_law_1705 (by decide) ?_
    refine aw_iinc C dL_law_1778 rfl (by decide) ?_
    refine aw_goto C (tgt := 28) dL_law_1781 (by decide) ?_
    refine aw_widen (n := 100 + 640 * (q + 1)) (k := 1000 + 4300 * (q + 1)) (by omega) (by omega) ?_
    refine aw_lv (lv' := [(0, .ref b0), (1, .ref (L 0 0)), (2, .ref (K 0 0)), (3, .ref o3), (4, .ref o4), (5, .int (nI (4 * (q + 1))))]) ⟨rfl, rfl, rfl, rfl, rfl, by rw [show 4 * (q + 1) = 4 * q + 4 by omega, ← nI_i4]; rfl, trivial⟩ ?_
    exact nx K (if rdC S (xs (4 * q + 1)) = 0 then S else S) _ rfl hW2
  · have hc0 : rdC S (xs (4 * q + 1)) = 0 := nI_inj (b := 0) lt_rd (by decide) c_1690
    refine aw_aload_n C dL_law_1693 rfl ?_
    refine aw_iconst C (v := 0) (by decide) dL_law_1694 ?_
    refine aw_laldE C ho2 (by decide : (0 : Int32) = nI 0) ⟨by decide, by decide⟩ rfl dL_law_1695 ?_
    refine aw_iload C dL_law_1696 rfl ?_
    refine aw_i2l C dL_law_1698 ?_
    refine aw_lcmp C dL_law_1699 ?_
    refine aw_eqi (y := 0) (by rw [hf1 hc0, hr hc0]; exact lg_self _) ?_
    refine aw_if_eq C (tgt := 1705) dL_law_1700 (by decide) (fun _ => ?_) (fun c9 => absurd (by decide) c9)
    refine aw_goto C (tgt := 1778) dL_law_1705 (by decide) ?_
    refine aw_iinc C dL_law_1778 rfl (by decide) ?_
    refine aw_goto C (tgt := 28) dL_law_1781 (by decide) ?_
    refine aw_widen (n := 100 + 640 * (q + 1)) (k := 1000 + 4300 * (q + 1)) (by omega) (by omega) ?_
    refine aw_lv (lv' := [(0, .ref b0), (1, .ref (L 0 0)), (2, .ref (K 0 0)), (3, .ref o3), (4, .ref o4), (5, .int (nI (4 * (q + 1))))]) ⟨rfl, rfl, rfl, rfl, rfl, by rw [show 4 * (q + 1) = 4 * q + 4 by omega, ← nI_i4]; rfl, trivial⟩ ?_
    exact nx K (if rdC S (xs (4 * q + 1)) = 0 then S else S) _ rfl hW2
set_option maxRecDepth 100000 in
set_option maxHeartbeats 4000000 in
theorem lc_25 {p : Program} {l : Launch} {e : Env} {s : State} {m : MethodId} {below : List Frame} {meth : Method} {c : Code} {Q : State → Prop} {D : va_G} {g : Nat → ClassId} {b0 Ln : Nat} {xs : Nat → Int32} {e0 o3 o4 q : Nat} {L K : Nat → Nat → Nat} {S : SS} {μ : mu} (hl9 : l.stackTraces = false) (H9 : LB s) (bl : BL s g e0) (C : Cx p s m #[Value.ref b0] meth c code RL 9 wsL_law ret s.heap.size D (tyL g)) (hE : EN s s) (hXs : va_X b0 Ln xs s s.heap) (hbl : b0 < s.heap.size) (hLn : Ln ≤ 2048) (hq : 4 * q + 4 ≤ Ln) (hW : LwI g e0 L K S o3 o4 q μ) (nx : ∀ (K' : Nat → Nat → Nat) (S' : SS) (μ' : mu), K' 0 0 = K 0 0 → LwI g e0 L K' S' o3 o4 (q + 1) μ' → Aw p l e room_1 s m #[Value.ref b0] below meth c Q s.heap.size D 9 μ' (100 + 640 * (q + 1)) (1000 + 4300 * (q + 1)) 28 [(0, .ref b0), (1, .ref (L 0 0)), (2, .ref (K 0 0)), (3, .ref o3), (4, .ref o4), (5, .int (nI (4 * (q + 1))))] []) : Aw p l e room_1 s m #[Value.ref b0] below meth c Q s.heap.size D 9 μ (100 + 640 * q) (1000 + 4300 * q) 1708 [(0, .ref b0), (1, .ref (L 0 0)), (2, .ref (K 0 0)), (3, .ref o3), (4, .ref o4), (5, .int (nI (4 * q)))] [] := by
  obtain ⟨hX0, ⟨X, hM0, hR0⟩, hI, hD, ⟨f3, h3⟩, ⟨f4, h4⟩, n3, n4, m3, m4, n34⟩ := id hW
  have hq2 : q < 2 ^ 30 := by omega
  refine aw_aload_n C dL_law_1708 rfl ?_
  refine aw_aload_n C dL_law_1709 rfl ?_
  refine aw_iload C dL_law_1710 rfl ?_
  refine aw_iconst C (v := 1) (by decide) dL_law_1712 ?_
  refine aw_iadd C dL_law_1713 ?_
  refine aw_eqi (y := nI (4 * q + 1)) (nI_1 _) ?_
  refine aw_sld C hXs hbl (k := 4 * q + 1) (by omega) hLn dL_law_1714 ?_
  refine aw_aload_n C dL_law_1715 rfl ?_
  refine aw_callSX (n := 3) C hE (k_L_wouldScore (x := xs (4 * q + 1)) hl9 H9 hX0 hI h3 n3) gL_law_L_wouldScore rfl ⟨rfl, rfl⟩ (by decide +kernel) ⟨by decide, by decide⟩ rfl rfl (Nat.le_of_ble_eq_true rfl) dL_law_1716 ⟨by show _ ≤ 601024; omega, by show _ ≤ 7293034; omega⟩ (fun _ _ h => h) (fun v μ1 hp => ?_)
  obtain ⟨rfl, hX1, ⟨f1, ho1, hf1⟩, hF1⟩ := hp
  have hM1 := hW.moved hM0 hF1 (Or.inl rfl)
  have hf3 : ∃ f : Nat → Int64, μ1 o3 = some (eJ g 1 f) := ⟨f1, ho1⟩
  have hf4 : ∃ f : Nat → UInt64, μ1 o4 = some (eD g 1 f) := ⟨f4, hF1 _ _ h4 n4 n34.symm⟩
  refine aw_st (st' := [.int (nI (rdC S (xs (4 * q + 1))))]) rfl ?_
  refine aw_istore C dL_law_1719 (by decide) ?_
  refine aw_aload_n C dL_law_1721 rfl ?_
  refine aw_aload_n C dL_law_1722 rfl ?_
  refine aw_iload C dL_law_1723 rfl ?_
  refine aw_iconst C (v := 1) (by decide) dL_law_1725 ?_
  refine aw_iadd C dL_law_1726 ?_
  refine aw_eqi (y := nI (4 * q + 1)) (nI_1 _) ?_
  refine aw_sld C hXs hbl (k := 4 * q + 1) (by omega) hLn dL_law_1727 ?_
  refine aw_callV (n := 1) C hE (ci := 9) (q := (RX7, TX7, 22)) (k_X7_wouldScore (x := xs (4 * q + 1)) H9.B hM1 hI hR0) gL_law_X7_wouldScore rfl ⟨rfl, rfl⟩ (by decide +kernel) ⟨by decide, by decide⟩ rfl rfl hM1.mo rfl (Nat.le_of_ble_eq_true rfl) dL_law_1728 ⟨by show _ ≤ 601024; omega, by show _ ≤ 7293034; omega⟩ (fun v μ2 hp => ?_)
  obtain ⟨⟨r, rfl, hr⟩, ⟨X2, hM2, hR2, hth2⟩, hF2⟩ := hp
  have hW2 : LwI g e0 L K (if rdC S (xs (4 * q + 1)) = 0 then S else S) o3 o4 (q + 1) μ2 := hW.step (ifn ⟨rfl, rfl⟩) (ifI (fun _ => hI) hI) hX1 hf3 hf4 hM2 (hR2.up (by omega)) hF2
  have ho2 := hF2 _ _ ho1 m3
  refine aw_st (st' := [.int r]) rfl ?_
  refine aw_istore C dL_law_1731 (by decide) ?_
  refine aw_aload_n C dL_law_1733 rfl ?_
  refine aw_callV (n := 0) C hE (ci := 9) (q := (RX7, TX7, 22)) (k_X7_thrown H9.B hM2) gL_law_X7_thrown rfl ⟨rfl, rfl⟩ (by decide +kernel) ⟨by decide, by decide⟩ rfl rfl hM2.mo rfl (Nat.le_of_ble_eq_true rfl) dL_law_1734 ⟨by show _ ≤ 601024; omega, by show _ ≤ 7293034; omega⟩ (fun v μ3 hp => ?_)
  obtain ⟨rfl, hm9⟩ := hp
  replace hm9 := hm9.symm
  subst hm9
  refine aw_st (st' := [.int X2.th]) rfl ?_
  refine aw_eqi (y := nI (rdC S (xs (4 * q + 1)))) hth2 ?_
  refine aw_iload C dL_law_1737 rfl ?_
  refine aw_icmp_eq C (tgt := 1744) dL_law_1739 (by decide) (fun _ => ?_) (fun c9 => absurd rfl c9)
  refine aw_iload C dL_law_1744 rfl ?_
  refine aw_if_ne C (tgt := 1761) dL_law_1746 (by decide) (fun c_1746 => ?_) (fun c_1746 => ?_)
  · refine aw_goto C (tgt := 1778) dL_law_1761 (by decide) ?_
    refine aw_iinc C dL_law_1778 rfl (by decide) ?_
    refine aw_goto C (tgt := 28) dL_law_1781 (by decide) ?_
    refine aw_widen (n := 100 + 640 * (q + 1)) (k := 1000 + 4300 * (q + 1)) (by omega) (by omega) ?_
    refine aw_lv (lv' := [(0, .ref b0), (1, .ref (L 0 0)), (2, .ref (K 0 0)), (3, .ref o3), (4, .ref o4), (5, .int (nI (4 * (q + 1))))]) ⟨rfl, rfl, rfl, rfl, rfl, by rw [show 4 * (q + 1) = 4 * q + 4 by omega, ← nI_i4]; rfl, trivial⟩ ?_
    exact nx K (if rdC S (xs (4 * q + 1)) = 0 then S else S) _ rfl hW2
  · have hc0 : rdC S (xs (4 * q + 1)) = 0 := nI_inj (b := 0) lt_rd (by decide) c_1746
    refine aw_aload_n C dL_law_1749 rfl ?_
    refine aw_iconst C (v := 0) (by decide) dL_law_1750 ?_
    refine aw_laldE C ho2 (by decide : (0 : Int32) = nI 0) ⟨by decide, by decide⟩ rfl dL_law_1751 ?_
    refine aw_iload C dL_law_1752 rfl ?_
    refine aw_i2l C dL_law_1754 ?_
    refine aw_lcmp C dL_law_1755 ?_
    refine aw_eqi (y := 0) (by rw [hf1 hc0, hr hc0]; exact lg_self _) ?_
    refine aw_if_eq C (tgt := 1761) dL_law_1756 (by decide) (fun _ => ?_) (fun c9 => absurd (by decide) c9)
    refine aw_goto C (tgt := 1778) dL_law_1761 (by decide) ?_
    refine aw_iinc C dL_law_1778 rfl (by decide) ?_
    refine aw_goto C (tgt := 28) dL_law_1781 (by decide) ?_
    refine aw_widen (n := 100 + 640 * (q + 1)) (k := 1000 + 4300 * (q + 1)) (by omega) (by omega) ?_
    refine aw_lv (lv' := [(0, .ref b0), (1, .ref (L 0 0)), (2, .ref (K 0 0)), (3, .ref o3), (4, .ref o4), (5, .int (nI (4 * (q + 1))))]) ⟨rfl, rfl, rfl, rfl, rfl, by rw [show 4 * (q + 1) = 4 * q + 4 by omega, ← nI_i4]; rfl, trivial⟩ ?_
    exact nx K (if rdC S (xs (4 * q + 1)) = 0 then S else S) _ rfl hW2
set_option maxRecDepth 100000 in
set_option maxHeartbeats 4000000 in
theorem lc_26 {p : Program} {l : Launch} {e : Env} {s : State} {m : MethodId} {below : List Frame} {meth : Method} {c : Code} {Q : State → Prop} {D : va_G} {g : Nat → ClassId} {b0 Ln : Nat} {xs : Nat → Int32} {e0 o3 o4 q : Nat} {L K : Nat → Nat → Nat} {S : SS} {μ : mu} (hl9 : l.stackTraces = false) (H9 : LB s) (bl : BL s g e0) (C : Cx p s m #[Value.ref b0] meth c code RL 9 wsL_law ret s.heap.size D (tyL g)) (hE : EN s s) (hXs : va_X b0 Ln xs s s.heap) (hbl : b0 < s.heap.size) (hLn : Ln ≤ 2048) (hq : 4 * q + 4 ≤ Ln) (hW : LwI g e0 L K S o3 o4 q μ) (nx : ∀ (K' : Nat → Nat → Nat) (S' : SS) (μ' : mu), K' 0 0 = K 0 0 → LwI g e0 L K' S' o3 o4 (q + 1) μ' → Aw p l e room_1 s m #[Value.ref b0] below meth c Q s.heap.size D 9 μ' (100 + 640 * (q + 1)) (1000 + 4300 * (q + 1)) 28 [(0, .ref b0), (1, .ref (L 0 0)), (2, .ref (K 0 0)), (3, .ref o3), (4, .ref o4), (5, .int (nI (4 * (q + 1))))] []) : Aw p l e room_1 s m #[Value.ref b0] below meth c Q s.heap.size D 9 μ (100 + 640 * q) (1000 + 4300 * q) 1764 [(0, .ref b0), (1, .ref (L 0 0)), (2, .ref (K 0 0)), (3, .ref o3), (4, .ref o4), (5, .int (nI (4 * q)))] [] := by
  obtain ⟨hX0, ⟨X, hM0, hR0⟩, hI, hD, ⟨f3, h3⟩, ⟨f4, h4⟩, n3, n4, m3, m4, n34⟩ := id hW
  have hq2 : q < 2 ^ 30 := by omega
  refine aw_aload_n C dL_law_1764 rfl ?_
  obtain ⟨fh, fv, hRC⟩ := id hX0
  refine aw_callV0 (n := 0) C hE (ci := 6) (q := (RX4, TX4, 16)) (k_X4_digest  hl9 H9.B hX0 hI) gL_law_X4_digest rfl ⟨rfl, rfl⟩ (by decide +kernel) ⟨by decide, by decide⟩ rfl rfl hRC.mn rfl (Nat.le_of_ble_eq_true rfl) dL_law_1765 ⟨by show _ ≤ 601024; omega, by show _ ≤ 7293034; omega⟩ (fun _ _ h => px9_0 h.1) (fun v μ1 hp => ?_)
  obtain ⟨-, rfl, hX1, hF1⟩ := hp
  have hM1 := hW.moved hM0 (FrC.O (o := o3) hF1) (Or.inl rfl)
  have hf3 : ∃ f : Nat → Int64, μ1 o3 = some (eJ g 1 f) := ⟨f3, hF1 _ _ h3 n3⟩
  have hf4 : ∃ f : Nat → UInt64, μ1 o4 = some (eD g 1 f) := ⟨f4, hF1 _ _ h4 n4⟩
  refine aw_st (st' := [.long (dgF S)]) rfl ?_
  refine aw_aload_n C dL_law_1768 rfl ?_
  refine aw_callV (n := 0) C hE (ci := 9) (q := (RX7, TX7, 22)) (k_X7_digest  H9.B hM1 hI hR0 hq2) gL_law_X7_digest rfl ⟨rfl, rfl⟩ (by decide +kernel) ⟨by decide, by decide⟩ rfl rfl hM1.mo rfl (Nat.le_of_ble_eq_true rfl) dL_law_1769 ⟨by show _ ≤ 601024; omega, by show _ ≤ 7293034; omega⟩ (fun v μ2 hp => ?_)
  obtain ⟨⟨r, rfl, hr⟩, ⟨X2, hM2, hR2, hth2⟩, hF2⟩ := hp
  have hW2 : LwI g e0 L K (if (0 : Nat) = 0 then S else S) o3 o4 (q + 1) μ2 := hW.step (ifn ⟨rfl, rfl⟩) (ifI (fun _ => hI) hI) hX1 hf3 hf4 hM2 (hR2.up (by omega)) hF2
  replace hr := hr rfl
  subst hr
  refine aw_st (st' := [.long (dgF S), .long (dgF S)]) rfl ?_
  refine aw_lcmp C dL_law_1772 ?_
  refine aw_eqi (y := 0) (lg_self _) ?_
  refine aw_if_eq C (tgt := 1778) dL_law_1773 (by decide) (fun _ => ?_) (fun c9 => absurd (by decide) c9)
  refine aw_iinc C dL_law_1778 rfl (by decide) ?_
  refine aw_goto C (tgt := 28) dL_law_1781 (by decide) ?_
  refine aw_widen (n := 100 + 640 * (q + 1)) (k := 1000 + 4300 * (q + 1)) (by omega) (by omega) ?_
  refine aw_lv (lv' := [(0, .ref b0), (1, .ref (L 0 0)), (2, .ref (K 0 0)), (3, .ref o3), (4, .ref o4), (5, .int (nI (4 * (q + 1))))]) ⟨rfl, rfl, rfl, rfl, rfl, by rw [show 4 * (q + 1) = 4 * q + 4 by omega, ← nI_i4]; rfl, trivial⟩ ?_
  exact nx K (if (0 : Nat) = 0 then S else S) _ rfl hW2
