/-! ===== the law: a call of the script ===== -/
set_option maxRecDepth 100000 in
set_option maxHeartbeats 4000000 in
theorem lc_7 {p : Program} {l : Launch} {e : Env} {s : State} {m : MethodId} {below : List Frame} {meth : Method} {c : Code} {Q : State → Prop} {D : va_G} {g : Nat → ClassId} {b0 Ln : Nat} {xs : Nat → Int32} {e0 o3 o4 q : Nat} {L K : Nat → Nat → Nat} {S : SS} {μ : mu} (hl9 : l.stackTraces = false) (H9 : LB s) (bl : BL s g e0) (C : Cx p s m #[Value.ref b0] meth c code RL 9 wsL_law ret s.heap.size D (tyL g)) (hE : EN s s) (hXs : va_X b0 Ln xs s s.heap) (hbl : b0 < s.heap.size) (hLn : Ln ≤ 2048) (hq : 4 * q + 4 ≤ Ln) (hW : LwI g e0 L K S o3 o4 q μ) (nx : ∀ (K' : Nat → Nat → Nat) (S' : SS) (μ' : mu), K' 0 0 = K 0 0 → LwI g e0 L K' S' o3 o4 (q + 1) μ' → Aw p l e room_1 s m #[Value.ref b0] below meth c Q s.heap.size D 9 μ' (100 + 640 * (q + 1)) (1000 + 4300 * (q + 1)) 28 [(0, .ref b0), (1, .ref (L 0 0)), (2, .ref (K 0 0)), (3, .ref o3), (4, .ref o4), (5, .int (nI (4 * (q + 1))))] []) : Aw p l e room_1 s m #[Value.ref b0] below meth c Q s.heap.size D 9 μ (100 + 640 * q) (1000 + 4300 * q) 665 [(0, .ref b0), (1, .ref (L 0 0)), (2, .ref (K 0 0)), (3, .ref o3), (4, .ref o4), (5, .int (nI (4 * q)))] [] := by
  obtain ⟨hX0, ⟨X, hM0, hR0⟩, hI, hD, ⟨f3, h3⟩, ⟨f4, h4⟩, n3, n4, m3, m4, n34⟩ := id hW
  have hq2 : q < 2 ^ 30 := by omega
  refine aw_aload_n C dL_law_665 rfl ?_
  refine aw_aload_n C dL_law_666 rfl ?_
  refine aw_iload C dL_law_667 rfl ?_
  refine aw_iconst C (v := 1) (by decide) dL_law_669 ?_
  refine aw_iadd C dL_law_670 ?_
  refine aw_eqi (y := nI (4 * q + 1)) (nI_1 _) ?_
  refine aw_sld C hXs hbl (k := 4 * q + 1) (by omega) hLn dL_law_671 ?_
  refine aw_aload_n C dL_law_672 rfl ?_
  refine aw_iload C dL_law_673 rfl ?_
  refine aw_iconst C (v := 2) (by decide) dL_law_675 ?_
  refine aw_iadd C dL_law_676 ?_
  refine aw_eqi (y := nI (4 * q + 2)) (nI_a2 _) ?_
  refine aw_sld C hXs hbl (k := 4 * q + 2) (by omega) hLn dL_law_677 ?_
  refine aw_aload_n C dL_law_678 rfl ?_
  refine aw_callSX (n := 4) C hE (k_L_shoot (x := xs (4 * q + 1)) (y := xs (4 * q + 2)) hl9 H9 hX0 hI h3 n3) gL_law_L_shoot rfl ⟨rfl, rfl⟩ (by decide +kernel) ⟨by decide, by decide⟩ rfl rfl (Nat.le_of_ble_eq_true rfl) dL_law_679 ⟨by show _ ≤ 601024; omega, by show _ ≤ 7293034; omega⟩ (fun _ _ h => h) (fun v μ1 hp => ?_)
  obtain ⟨rfl, hX1, ⟨f1, ho1, hf1⟩, hF1⟩ := hp
  have hM1 := hW.moved hM0 hF1 (Or.inl rfl)
  have hf3 : ∃ f : Nat → Int64, μ1 o3 = some (eJ g 1 f) := ⟨f1, ho1⟩
  have hf4 : ∃ f : Nat → UInt64, μ1 o4 = some (eD g 1 f) := ⟨f4, hF1 _ _ h4 n4 n34.symm⟩
  refine aw_st (st' := [.int (nI (shC S (xs (4 * q + 1)) (xs (4 * q + 2))))]) rfl ?_
  refine aw_istore C dL_law_682 (by decide) ?_
  refine aw_aload_n C dL_law_684 rfl ?_
  refine aw_aload_n C dL_law_685 rfl ?_
  refine aw_iload C dL_law_686 rfl ?_
  refine aw_iconst C (v := 1) (by decide) dL_law_688 ?_
  refine aw_iadd C dL_law_689 ?_
  refine aw_eqi (y := nI (4 * q + 1)) (nI_1 _) ?_
  refine aw_sld C hXs hbl (k := 4 * q + 1) (by omega) hLn dL_law_690 ?_
  refine aw_aload_n C dL_law_691 rfl ?_
  refine aw_iload C dL_law_692 rfl ?_
  refine aw_iconst C (v := 2) (by decide) dL_law_694 ?_
  refine aw_iadd C dL_law_695 ?_
  refine aw_eqi (y := nI (4 * q + 2)) (nI_a2 _) ?_
  refine aw_sld C hXs hbl (k := 4 * q + 2) (by omega) hLn dL_law_696 ?_
  refine aw_callV (n := 2) C hE (ci := 9) (q := (RX7, TX7, 22)) (k_X7_shoot (x := xs (4 * q + 1)) (y := xs (4 * q + 2)) H9.B hM1 hI hR0 hq2) gL_law_X7_shoot rfl ⟨rfl, rfl⟩ (by decide +kernel) ⟨by decide, by decide⟩ rfl rfl hM1.mo rfl (Nat.le_of_ble_eq_true rfl) dL_law_697 ⟨by show _ ≤ 601024; omega, by show _ ≤ 7293034; omega⟩ (fun v μ2 hp => ?_)
  obtain ⟨⟨r, rfl, hr⟩, ⟨X2, hM2, hR2, hth2⟩, hF2⟩ := hp
  have hW2 : LwI g e0 L K (if shC S (xs (4 * q + 1)) (xs (4 * q + 2)) = 0 then (shS S (ix (xs (4 * q + 1))) (ix (S.A (ix (xs (4 * q + 1))) 5)) (ix (xs (4 * q + 2)))) else S) o3 o4 (q + 1) μ2 := hW.step (ifn (shS_n _ _ _ _)) (ifI (fun h => Iv_sh hI h) hI) hX1 hf3 hf4 hM2 (hR2.up (by omega)) hF2
  have ho2 := hF2 _ _ ho1 m3
  refine aw_st (st' := [.int r]) rfl ?_
  refine aw_istore C dL_law_700 (by decide) ?_
  refine aw_aload_n C dL_law_702 rfl ?_
  refine aw_callV (n := 0) C hE (ci := 9) (q := (RX7, TX7, 22)) (k_X7_thrown H9.B hM2) gL_law_X7_thrown rfl ⟨rfl, rfl⟩ (by decide +kernel) ⟨by decide, by decide⟩ rfl rfl hM2.mo rfl (Nat.le_of_ble_eq_true rfl) dL_law_703 ⟨by show _ ≤ 601024; omega, by show _ ≤ 7293034; omega⟩ (fun v μ3 hp => ?_)
  obtain ⟨rfl, hm9⟩ := hp
  replace hm9 := hm9.symm
  subst hm9
  refine aw_st (st' := [.int X2.th]) rfl ?_
  refine aw_eqi (y := nI (shC S (xs (4 * q + 1)) (xs (4 * q + 2)))) hth2 ?_
  refine aw_iload C dL_law_706 rfl ?_
  refine aw_icmp_eq C (tgt := 713) dL_law_708 (by decide) (fun _ => ?_) (fun c9 => absurd rfl c9)
  refine aw_iload C dL_law_713 rfl ?_
  refine aw_if_ne C (tgt := 730) dL_law_715 (by decide) (fun c_715 => ?_) (fun c_715 => ?_)
  · refine aw_goto C (tgt := 1778) dL_law_730 (by decide) ?_
    refine aw_iinc C dL_law_1778 rfl (by decide) ?_
    refine aw_goto C (tgt := 28) dL_law_1781 (by decide) ?_
    refine aw_widen (n := 100 + 640 * (q + 1)) (k := 1000 + 4300 * (q + 1)) (by omega) (by omega) ?_
    refine aw_lv (lv' := [(0, .ref b0), (1, .ref (L 0 0)), (2, .ref (K 0 0)), (3, .ref o3), (4, .ref o4), (5, .int (nI (4 * (q + 1))))]) ⟨rfl, rfl, rfl, rfl, rfl, by rw [show 4 * (q + 1) = 4 * q + 4 by omega, ← nI_i4]; rfl, trivial⟩ ?_
    exact nx K (if shC S (xs (4 * q + 1)) (xs (4 * q + 2)) = 0 then (shS S (ix (xs (4 * q + 1))) (ix (S.A (ix (xs (4 * q + 1))) 5)) (ix (xs (4 * q + 2)))) else S) _ rfl hW2
  · have hc0 : shC S (xs (4 * q + 1)) (xs (4 * q + 2)) = 0 := nI_inj (b := 0) lt_sh (by decide) c_715
    refine aw_aload_n C dL_law_718 rfl ?_
    refine aw_iconst C (v := 0) (by decide) dL_law_719 ?_
    refine aw_laldE C ho2 (by decide : (0 : Int32) = nI 0) ⟨by decide, by decide⟩ rfl dL_law_720 ?_
    refine aw_iload C dL_law_721 rfl ?_
    refine aw_i2l C dL_law_723 ?_
    refine aw_lcmp C dL_law_724 ?_
    refine aw_eqi (y := 0) (by rw [hf1 hc0, hr hc0]; exact lg_self _) ?_
    refine aw_if_eq C (tgt := 730) dL_law_725 (by decide) (fun _ => ?_) (fun c9 => absurd (by decide) c9)
    refine aw_goto C (tgt := 1778) dL_law_730 (by decide) ?_
    refine aw_iinc C dL_law_1778 rfl (by decide) ?_
    refine aw_goto C (tgt := 28) dL_law_1781 (by decide) ?_
    refine aw_widen (n := 100 + 640 * (q + 1)) (k := 1000 + 4300 * (q + 1)) (by omega) (by omega) ?_
    refine aw_lv (lv' := [(0, .ref b0), (1, .ref (L 0 0)), (2, .ref (K 0 0)), (3, .ref o3), (4, .ref o4), (5, .int (nI (4 * (q + 1))))]) ⟨rfl, rfl, rfl, rfl, rfl, by rw [show 4 * (q + 1) = 4 * q + 4 by omega, ← nI_i4]; rfl, trivial⟩ ?_
    exact nx K (if shC S (xs (4 * q + 1)) (xs (4 * q + 2)) = 0 then (shS S (ix (xs (4 * q + 1))) (ix (S.A (ix (xs (4 * q + 1))) 5)) (ix (xs (4 * q + 2)))) else S) _ rfl hW2
set_option maxRecDepth 100000 in
set_option maxHeartbeats 4000000 in
theorem lc_8 {p : Program} {l : Launch} {e : Env} {s : State} {m : MethodId} {below : List Frame} {meth : Method} {c : Code} {Q : State → Prop} {D : va_G} {g : Nat → ClassId} {b0 Ln : Nat} {xs : Nat → Int32} {e0 o3 o4 q : Nat} {L K : Nat → Nat → Nat} {S : SS} {μ : mu} (hl9 : l.stackTraces = false) (H9 : LB s) (bl : BL s g e0) (C : Cx p s m #[Value.ref b0] meth c code RL 9 wsL_law ret s.heap.size D (tyL g)) (hE : EN s s) (hXs : va_X b0 Ln xs s s.heap) (hbl : b0 < s.heap.size) (hLn : Ln ≤ 2048) (hq : 4 * q + 4 ≤ Ln) (hW : LwI g e0 L K S o3 o4 q μ) (nx : ∀ (K' : Nat → Nat → Nat) (S' : SS) (μ' : mu), K' 0 0 = K 0 0 → LwI g e0 L K' S' o3 o4 (q + 1) μ' → Aw p l e room_1 s m #[Value.ref b0] below meth c Q s.heap.size D 9 μ' (100 + 640 * (q + 1)) (1000 + 4300 * (q + 1)) 28 [(0, .ref b0), (1, .ref (L 0 0)), (2, .ref (K 0 0)), (3, .ref o3), (4, .ref o4), (5, .int (nI (4 * (q + 1))))] []) : Aw p l e room_1 s m #[Value.ref b0] below meth c Q s.heap.size D 9 μ (100 + 640 * q) (1000 + 4300 * q) 733 [(0, .ref b0), (1, .ref (L 0 0)), (2, .ref (K 0 0)), (3, .ref o3), (4, .ref o4), (5, .int (nI (4 * q)))] [] := by
  obtain ⟨hX0, ⟨X, hM0, hR0⟩, hI, hD, ⟨f3, h3⟩, ⟨f4, h4⟩, n3, n4, m3, m4, n34⟩ := id hW
  have hq2 : q < 2 ^ 30 := by omega
  refine aw_aload_n C dL_law_733 rfl ?_
  obtain ⟨fh, fv, hRC⟩ := id hX0
  refine aw_callV0 (n := 0) C hE (ci := 6) (q := (RX4, TX4, 16)) (k_X4_pull  hl9 H9.B hX0 hI) gL_law_X4_pull rfl ⟨rfl, rfl⟩ (by decide +kernel) ⟨by decide, by decide⟩ rfl rfl hRC.mn rfl (Nat.le_of_ble_eq_true rfl) dL_law_734 ⟨by show _ ≤ 601024; omega, by show _ ≤ 7293034; omega⟩ (fun _ _ h => px9_0 h.1) (fun v μ1 hp => ?_)
  obtain ⟨-, rfl, hX1, hF1⟩ := hp
  have hM1 := hW.moved hM0 (FrC.O (o := o3) hF1) (Or.inl rfl)
  have hf3 : ∃ f : Nat → Int64, μ1 o3 = some (eJ g 1 f) := ⟨f3, hF1 _ _ h3 n3⟩
  have hf4 : ∃ f : Nat → UInt64, μ1 o4 = some (eD g 1 f) := ⟨f4, hF1 _ _ h4 n4⟩
  refine aw_st (st' := [.int (skF S)]) rfl ?_
  refine aw_aload_n C dL_law_737 rfl ?_
  refine aw_callV (n := 0) C hE (ci := 9) (q := (RX7, TX7, 22)) (k_X7_pull  H9.B hM1 hI hR0) gL_law_X7_pull rfl ⟨rfl, rfl⟩ (by decide +kernel) ⟨by decide, by decide⟩ rfl rfl hM1.mo rfl (Nat.le_of_ble_eq_true rfl) dL_law_738 ⟨by show _ ≤ 601024; omega, by show _ ≤ 7293034; omega⟩ (fun v μ2 hp => ?_)
  obtain ⟨⟨r, rfl, hr⟩, ⟨X2, hM2, hR2, hth2⟩, hF2⟩ := hp
  have hW2 : LwI g e0 L K (if (0 : Nat) = 0 then (puS S) else S) o3 o4 (q + 1) μ2 := hW.step (ifn ⟨rfl, rfl⟩) (ifI (fun _ => Iv_puS hI) hI) hX1 hf3 hf4 hM2 (hR2.up (by omega)) hF2
  replace hr := hr rfl
  subst hr
  refine aw_st (st' := [.int (skF S), .int (skF S)]) rfl ?_
  refine aw_icmp_eq C (tgt := 1778) dL_law_741 (by decide) (fun _ => ?_) (fun c9 => absurd rfl c9)
  refine aw_iinc C dL_law_1778 rfl (by decide) ?_
  refine aw_goto C (tgt := 28) dL_law_1781 (by decide) ?_
  refine aw_widen (n := 100 + 640 * (q + 1)) (k := 1000 + 4300 * (q + 1)) (by omega) (by omega) ?_
  refine aw_lv (lv' := [(0, .ref b0), (1, .ref (L 0 0)), (2, .ref (K 0 0)), (3, .ref o3), (4, .ref o4), (5, .int (nI (4 * (q + 1))))]) ⟨rfl, rfl, rfl, rfl, rfl, by rw [show 4 * (q + 1) = 4 * q + 4 by omega, ← nI_i4]; rfl, trivial⟩ ?_
  exact nx K (if (0 : Nat) = 0 then (puS S) else S) _ rfl hW2
set_option maxRecDepth 100000 in
set_option maxHeartbeats 4000000 in
theorem lc_9 {p : Program} {l : Launch} {e : Env} {s : State} {m : MethodId} {below : List Frame} {meth : Method} {c : Code} {Q : State → Prop} {D : va_G} {g : Nat → ClassId} {b0 Ln : Nat} {xs : Nat → Int32} {e0 o3 o4 q : Nat} {L K : Nat → Nat → Nat} {S : SS} {μ : mu} (hl9 : l.stackTraces = false) (H9 : LB s) (bl : BL s g e0) (C : Cx p s m #[Value.ref b0] meth c code RL 9 wsL_law ret s.heap.size D (tyL g)) (hE : EN s s) (hXs : va_X b0 Ln xs s s.heap) (hbl : b0 < s.heap.size) (hLn : Ln ≤ 2048) (hq : 4 * q + 4 ≤ Ln) (hW : LwI g e0 L K S o3 o4 q μ) (nx : ∀ (K' : Nat → Nat → Nat) (S' : SS) (μ' : mu), K' 0 0 = K 0 0 → LwI g e0 L K' S' o3 o4 (q + 1) μ' → Aw p l e room_1 s m #[Value.ref b0] below meth c Q s.heap.size D 9 μ' (100 + 640 * (q + 1)) (1000 + 4300 * (q + 1)) 28 [(0, .ref b0), (1, .ref (L 0 0)), (2, .ref (K 0 0)), (3, .ref o3), (4, .ref o4), (5, .int (nI (4 * (q + 1))))] []) : Aw p l e room_1 s m #[Value.ref b0] below meth c Q s.heap.size D 9 μ (100 + 640 * q) (1000 + 4300 * q) 746 [(0, .ref b0), (1, .ref (L 0 0)), (2, .ref (K 0 0)), (3, .ref o3), (4, .ref o4), (5, .int (nI (4 * q)))] [] := by
  obtain ⟨hX0, ⟨X, hM0, hR0⟩, hI, hD, ⟨f3, h3⟩, ⟨f4, h4⟩, n3, n4, m3, m4, n34⟩ := id hW
  have hq2 : q < 2 ^ 30 := by omega
  refine aw_aload_n C dL_law_746 rfl ?_
  refine aw_aload_n C dL_law_747 rfl ?_
  refine aw_iload C dL_law_748 rfl ?_
  refine aw_iconst C (v := 1) (by decide) dL_law_750 ?_
  refine aw_iadd C dL_law_751 ?_
  refine aw_eqi (y := nI (4 * q + 1)) (nI_1 _) ?_
  refine aw_sld C hXs hbl (k := 4 * q + 1) (by omega) hLn dL_law_752 ?_
  refine aw_aload_n C dL_law_753 rfl ?_
  refine aw_callSX (n := 3) C hE (k_L_mend (x := xs (4 * q + 1)) hl9 H9 hX0 hI h3 n3) gL_law_L_mend rfl ⟨rfl, rfl⟩ (by decide +kernel) ⟨by decide, by decide⟩ rfl rfl (Nat.le_of_ble_eq_true rfl) dL_law_754 ⟨by show _ ≤ 601024; omega, by show _ ≤ 7293034; omega⟩ (fun _ _ h => h) (fun v μ1 hp => ?_)
  obtain ⟨rfl, hX1, ⟨f1, ho1, hf1⟩, hF1⟩ := hp
  have hM1 := hW.moved hM0 hF1 (Or.inl rfl)
  have hf3 : ∃ f : Nat → Int64, μ1 o3 = some (eJ g 1 f) := ⟨f1, ho1⟩
  have hf4 : ∃ f : Nat → UInt64, μ1 o4 = some (eD g 1 f) := ⟨f4, hF1 _ _ h4 n4 n34.symm⟩
  refine aw_st (st' := [.int (nI (meC S (xs (4 * q + 1))))]) rfl ?_
  refine aw_istore C dL_law_757 (by decide) ?_
  refine aw_aload_n C dL_law_759 rfl ?_
  refine aw_aload_n C dL_law_760 rfl ?_
  refine aw_iload C dL_law_761 rfl ?_
  refine aw_iconst C (v := 1) (by decide) dL_law_763 ?_
  refine aw_iadd C dL_law_764 ?_
  refine aw_eqi (y := nI (4 * q + 1)) (nI_1 _) ?_
  refine aw_sld C hXs hbl (k := 4 * q + 1) (by omega) hLn dL_law_765 ?_
  refine aw_callV (n := 1) C hE (ci := 9) (q := (RX7, TX7, 22)) (k_X7_mend (x := xs (4 * q + 1)) H9.B hM1 hI hR0) gL_law_X7_mend rfl ⟨rfl, rfl⟩ (by decide +kernel) ⟨by decide, by decide⟩ rfl rfl hM1.mo rfl (Nat.le_of_ble_eq_true rfl) dL_law_766 ⟨by show _ ≤ 601024; omega, by show _ ≤ 7293034; omega⟩ (fun v μ2 hp => ?_)
  obtain ⟨⟨r, rfl, hr⟩, ⟨X2, hM2, hR2, hth2⟩, hF2⟩ := hp
  have hW2 : LwI g e0 L K (if meC S (xs (4 * q + 1)) = 0 then (meS S (ix (xs (4 * q + 1)))) else S) o3 o4 (q + 1) μ2 := hW.step (ifn ⟨rfl, rfl⟩) (ifI (fun h => Iv_me hI h) hI) hX1 hf3 hf4 hM2 (hR2.up (by omega)) hF2
  have ho2 := hF2 _ _ ho1 m3
  refine aw_st (st' := [.int r]) rfl ?_
  refine aw_istore C dL_law_769 (by decide) ?_
  refine aw_aload_n C dL_law_771 rfl ?_
  refine aw_callV (n := 0) C hE (ci := 9) (q := (RX7, TX7, 22)) (k_X7_thrown H9.B hM2) gL_law_X7_thrown rfl ⟨rfl, rfl⟩ (by decide +kernel) ⟨by decide, by decide⟩ rfl rfl hM2.mo rfl (Nat.le_of_ble_eq_true rfl) dL_law_772 ⟨by show _ ≤ 601024; omega, by show _ ≤ 7293034; omega⟩ (fun v μ3 hp => ?_)
  obtain ⟨rfl, hm9⟩ := hp
  replace hm9 := hm9.symm
  subst hm9
  refine aw_st (st' := [.int X2.th]) rfl ?_
  refine aw_eqi (y := nI (meC S (xs (4 * q + 1)))) hth2 ?_
  refine aw_iload C dL_law_775 rfl ?_
  refine aw_icmp_eq C (tgt := 782) dL_law_777 (by decide) (fun _ => ?_) (fun c9 => absurd rfl c9)
  refine aw_iload C dL_law_782 rfl ?_
  refine aw_if_ne C (tgt := 799) dL_law_784 (by decide) (fun c_784 => ?_) (fun c_784 => ?_)
  · refine aw_goto C (tgt := 1778) dL_law_799 (by decide) ?_
    refine aw_iinc C dL_law_1778 rfl (by decide) ?_
    refine aw_goto C (tgt := 28) dL_law_1781 (by decide) ?_
    refine aw_widen (n := 100 + 640 * (q + 1)) (k := 1000 + 4300 * (q + 1)) (by omega) (by omega) ?_
    refine aw_lv (lv' := [(0, .ref b0), (1, .ref (L 0 0)), (2, .ref (K 0 0)), (3, .ref o3), (4, .ref o4), (5, .int (nI (4 * (q + 1))))]) ⟨rfl, rfl, rfl, rfl, rfl, by rw [show 4 * (q + 1) = 4 * q + 4 by omega, ← nI_i4]; rfl, trivial⟩ ?_
    exact nx K (if meC S (xs (4 * q + 1)) = 0 then (meS S (ix (xs (4 * q + 1)))) else S) _ rfl hW2
  · have hc0 : meC S (xs (4 * q + 1)) = 0 := nI_inj (b := 0) lt_me (by decide) c_784
    refine aw_aload_n C dL_law_787 rfl ?_
    refine aw_iconst C (v := 0) (by decide) dL_law_788 ?_
    refine aw_laldE C ho2 (by decide : (0 : Int32) = nI 0) ⟨by decide, by decide⟩ rfl dL_law_789 ?_
    refine aw_iload C dL_law_790 rfl ?_
    refine aw_i2l C dL_law_792 ?_
    refine aw_lcmp C dL_law_793 ?_
    refine aw_eqi (y := 0) (by rw [hf1 hc0, hr hc0]; exact lg_self _) ?_
    refine aw_if_eq C (tgt := 799) dL_law_794 (by decide) (fun _ => ?_) (fun c9 => absurd (by decide) c9)
    refine aw_goto C (tgt := 1778) dL_law_799 (by decide) ?_
    refine aw_iinc C dL_law_1778 rfl (by decide) ?_
    refine aw_goto C (tgt := 28) dL_law_1781 (by decide) ?_
    refine aw_widen (n := 100 + 640 * (q + 1)) (k := 1000 + 4300 * (q + 1)) (by omega) (by omega) ?_
    refine aw_lv (lv' := [(0, .ref b0), (1, .ref (L 0 0)), (2, .ref (K 0 0)), (3, .ref o3), (4, .ref o4), (5, .int (nI (4 * (q + 1))))]) ⟨rfl, rfl, rfl, rfl, rfl, by rw [show 4 * (q + 1) = 4 * q + 4 by omega, ← nI_i4]; rfl, trivial⟩ ?_
    exact nx K (if meC S (xs (4 * q + 1)) = 0 then (meS S (ix (xs (4 * q + 1)))) else S) _ rfl hW2
set_option maxRecDepth 100000 in
set_option maxHeartbeats 4000000 in
theorem lc_10 {p : Program} {l : Launch} {e : Env} {s : State} {m : MethodId} {below : List Frame} {meth : Method} {c : Code} {Q : State → Prop} {D : va_G} {g : Nat → ClassId} {b0 Ln : Nat} {xs : Nat → Int32} {e0 o3 o4 q : Nat} {L K : Nat → Nat → Nat} {S : SS} {μ : mu} (hl9 : l.stackTraces = false) (H9 : LB s) (bl : BL s g e0) (C : Cx p s m #[Value.ref b0] meth c code RL 9 wsL_law ret s.heap.size D (tyL g)) (hE : EN s s) (hXs : va_X b0 Ln xs s s.heap) (hbl : b0 < s.heap.size) (hLn : Ln ≤ 2048) (hq : 4 * q + 4 ≤ Ln) (hW : LwI g e0 L K S o3 o4 q μ) (nx : ∀ (K' : Nat → Nat → Nat) (S' : SS) (μ' : mu), K' 0 0 = K 0 0 → LwI g e0 L K' S' o3 o4 (q + 1) μ' → Aw p l e room_1 s m #[Value.ref b0] below meth c Q s.heap.size D 9 μ' (100 + 640 * (q + 1)) (1000 + 4300 * (q + 1)) 28 [(0, .ref b0), (1, .ref (L 0 0)), (2, .ref (K 0 0)), (3, .ref o3), (4, .ref o4), (5, .int (nI (4 * (q + 1))))] []) : Aw p l e room_1 s m #[Value.ref b0] below meth c Q s.heap.size D 9 μ (100 + 640 * q) (1000 + 4300 * q) 802 [(0, .ref b0), (1, .ref (L 0 0)), (2, .ref (K 0 0)), (3, .ref o3), (4, .ref o4), (5, .int (nI (4 * q)))] [] := by
  obtain ⟨hX0, ⟨X, hM0, hR0⟩, hI, hD, ⟨f3, h3⟩, ⟨f4, h4⟩, n3, n4, m3, m4, n34⟩ := id hW
  have hq2 : q < 2 ^ 30 := by omega
  refine aw_aload_n C dL_law_802 rfl ?_
  refine aw_aload_n C dL_law_803 rfl ?_
  refine aw_iload C dL_law_804 rfl ?_
  refine aw_iconst C (v := 1) (by decide) dL_law_806 ?_
  refine aw_iadd C dL_law_807 ?_
  refine aw_eqi (y := nI (4 * q + 1)) (nI_1 _) ?_
  refine aw_sld C hXs hbl (k := 4 * q + 1) (by omega) hLn dL_law_808 ?_
  refine aw_aload_n C dL_law_809 rfl ?_
  refine aw_iload C dL_law_810 rfl ?_
  refine aw_iconst C (v := 2) (by decide) dL_law_812 ?_
  refine aw_iadd C dL_law_813 ?_
  refine aw_eqi (y := nI (4 * q + 2)) (nI_a2 _) ?_
  refine aw_sld C hXs hbl (k := 4 * q + 2) (by omega) hLn dL_law_814 ?_
  refine aw_aload_n C dL_law_815 rfl ?_
  refine aw_callSX (n := 4) C hE (k_L_match (x := xs (4 * q + 1)) (y := xs (4 * q + 2)) hl9 H9 hX0 hI h3 n3) gL_law_L_match rfl ⟨rfl, rfl⟩ (by decide +kernel) ⟨by decide, by decide⟩ rfl rfl (Nat.le_of_ble_eq_true rfl) dL_law_816 ⟨by show _ ≤ 601024; omega, by show _ ≤ 7293034; omega⟩ (fun _ _ h => h) (fun v μ1 hp => ?_)
  obtain ⟨rfl, hX1, ⟨f1, ho1, hf1⟩, hF1⟩ := hp
  have hM1 := hW.moved hM0 hF1 (Or.inl rfl)
  have hf3 : ∃ f : Nat → Int64, μ1 o3 = some (eJ g 1 f) := ⟨f1, ho1⟩
  have hf4 : ∃ f : Nat → UInt64, μ1 o4 = some (eD g 1 f) := ⟨f4, hF1 _ _ h4 n4 n34.symm⟩
  refine aw_st (st' := [.int (nI (maC S (xs (4 * q + 1)) (xs (4 * q + 2))))]) rfl ?_
  refine aw_istore C dL_law_819 (by decide) ?_
  refine aw_aload_n C dL_law_821 rfl ?_
  refine aw_aload_n C dL_law_822 rfl ?_
  refine aw_iload C dL_law_823 rfl ?_
  refine aw_iconst C (v := 1) (by decide) dL_law_825 ?_
  refine aw_iadd C dL_law_826 ?_
  refine aw_eqi (y := nI (4 * q + 1)) (nI_1 _) ?_
  refine aw_sld C hXs hbl (k := 4 * q + 1) (by omega) hLn dL_law_827 ?_
  refine aw_aload_n C dL_law_828 rfl ?_
  refine aw_iload C dL_law_829 rfl ?_
  refine aw_iconst C (v := 2) (by decide) dL_law_831 ?_
  refine aw_iadd C dL_law_832 ?_
  refine aw_eqi (y := nI (4 * q + 2)) (nI_a2 _) ?_
  refine aw_sld C hXs hbl (k := 4 * q + 2) (by omega) hLn dL_law_833 ?_
  refine aw_callV (n := 2) C hE (ci := 9) (q := (RX7, TX7, 22)) (k_X7_match (x := xs (4 * q + 1)) (y := xs (4 * q + 2)) H9.B hM1 hI hR0) gL_law_X7_match rfl ⟨rfl, rfl⟩ (by decide +kernel) ⟨by decide, by decide⟩ rfl rfl hM1.mo rfl (Nat.le_of_ble_eq_true rfl) dL_law_834 ⟨by show _ ≤ 601024; omega, by show _ ≤ 7293034; omega⟩ (fun v μ2 hp => ?_)
  obtain ⟨⟨r, rfl, hr⟩, ⟨X2, hM2, hR2, hth2⟩, hF2⟩ := hp
  have hW2 : LwI g e0 L K (if maC S (xs (4 * q + 1)) (xs (4 * q + 2)) = 0 then (maS S (xs (4 * q + 1)) (xs (4 * q + 2))) else S) o3 o4 (q + 1) μ2 := hW.step (ifn ⟨rfl, rfl⟩) (ifI (fun h => Iv_ma hI h) hI) hX1 hf3 hf4 hM2 (hR2.up (by omega)) hF2
  have ho2 := hF2 _ _ ho1 m3
  refine aw_st (st' := [.int r]) rfl ?_
  refine aw_istore C dL_law_837 (by decide) ?_
  refine aw_aload_n C dL_law_839 rfl ?_
  refine aw_callV (n := 0) C hE (ci := 9) (q := (RX7, TX7, 22)) (k_X7_thrown H9.B hM2) gL_law_X7_thrown rfl ⟨rfl, rfl⟩ (by decide +kernel) ⟨by decide, by decide⟩ rfl rfl hM2.mo rfl (Nat.le_of_ble_eq_true rfl) dL_law_840 ⟨by show _ ≤ 601024; omega, by show _ ≤ 7293034; omega⟩ (fun v μ3 hp => ?_)
  obtain ⟨rfl, hm9⟩ := hp
  replace hm9 := hm9.symm
  subst hm9
  refine aw_st (st' := [.int X2.th]) rfl ?_
  refine aw_eqi (y := nI (maC S (xs (4 * q + 1)) (xs (4 * q + 2)))) hth2 ?_
  refine aw_iload C dL_law_843 rfl ?_
  refine aw_icmp_eq C (tgt := 850) dL_law_845 (by decide) (fun _ => ?_) (fun c9 => absurd rfl c9)
  refine aw_iload C dL_law_850 rfl ?_
  refine aw_if_ne C (tgt := 867) dL_law_852 (by decide) (fun c_852 => ?_) (fun c_852 => ?_)
  · refine aw_goto C (tgt := 1778) dL_law_867 (by decide) ?_
    refine aw_iinc C dL_law_1778 rfl (by decide) ?_
    refine aw_goto C (tgt := 28) dL_law_1781 (by decide) ?_
    refine aw_widen (n := 100 + 640 * (q + 1)) (k := 1000 + 4300 * (q + 1)) (by omega) (by omega) ?_
    refine aw_lv (lv' := [(0, .ref b0), (1, .ref (L 0 0)), (2, .ref (K 0 0)), (3, .ref o3), (4, .ref o4), (5, .int (nI (4 * (q + 1))))]) ⟨rfl, rfl, rfl, rfl, rfl, by rw [show 4 * (q + 1) = 4 * q + 4 by omega, ← nI_i4]; rfl, trivial⟩ ?_
    exact nx K (if maC S (xs (4 * q + 1)) (xs (4 * q + 2)) = 0 then (maS S (xs (4 * q + 1)) (xs (4 * q + 2))) else S) _ rfl hW2
  · have hc0 : maC S (xs (4 * q + 1)) (xs (4 * q + 2)) = 0 := nI_inj (b := 0) lt_ma (by decide) c_852
    refine aw_aload_n C dL_law_855 rfl ?_
    refine aw_iconst C (v := 0) (by decide) dL_law_856 ?_
    refine aw_laldE C ho2 (by decide : (0 : Int32) = nI 0) ⟨by decide, by decide⟩ rfl dL_law_857 ?_
    refine aw_iload C dL_law_858 rfl ?_
    refine aw_i2l C dL_law_860 ?_
    refine aw_lcmp C dL_law_861 ?_
    refine aw_eqi (y := 0) (by rw [hf1 hc0, hr hc0]; exact lg_self _) ?_
    refine aw_if_eq C (tgt := 867) dL_law_862 (by decide) (fun _ => ?_) (fun c9 => absurd (by decide) c9)
    refine aw_goto C (tgt := 1778) dL_law_867 (by decide) ?_
    refine aw_iinc C dL_law_1778 rfl (by decide) ?_
    refine aw_goto C (tgt := 28) dL_law_1781 (by decide) ?_
    refine aw_widen (n := 100 + 640 * (q + 1)) (k := 1000 + 4300 * (q + 1)) (by omega) (by omega) ?_
    refine aw_lv (lv' := [(0, .ref b0), (1, .ref (L 0 0)), (2, .ref (K 0 0)), (3, .ref o3), (4, .ref o4), (5, .int (nI (4 * (q + 1))))]) ⟨rfl, rfl, rfl, rfl, rfl, by rw [show 4 * (q + 1) = 4 * q + 4 by omega, ← nI_i4]; rfl, trivial⟩ ?_
    exact nx K (if maC S (xs (4 * q + 1)) (xs (4 * q + 2)) = 0 then (maS S (xs (4 * q + 1)) (xs (4 * q + 2))) else S) _ rfl hW2
set_option maxRecDepth 100000 in
set_option maxHeartbeats 4000000 in
theorem lc_11 {p : Program} {l : Launch} {e : Env} {s : State} {m : MethodId} {below : List Frame} {meth : Method} {c : Code} {Q : State → Prop} {D : va_G} {g : Nat → ClassId} {b0 Ln : Nat} {xs : Nat → Int32} {e0 o3 o4 q : Nat} {L K : Nat → Nat → Nat} {S : SS} {μ : mu} (hl9 : l.stackTraces = false) (H9 : LB s) (bl : BL s g e0) (C : Cx p s m #[Value.ref b0] meth c code RL 9 wsL_law ret s.heap.size D (tyL g)) (hE : EN s s) (hXs : va_X b0 Ln xs s s.heap) (hbl : b0 < s.heap.size) (hLn : Ln ≤ 2048) (hq : 4 * q + 4 ≤ Ln) (hW : LwI g e0 L K S o3 o4 q μ) (nx : ∀ (K' : Nat → Nat → Nat) (S' : SS) (μ' : mu), K' 0 0 = K 0 0 → LwI g e0 L K' S' o3 o4 (q + 1) μ' → Aw p l e room_1 s m #[Value.ref b0] below meth c Q s.heap.size D 9 μ' (100 + 640 * (q + 1)) (1000 + 4300 * (q + 1)) 28 [(0, .ref b0), (1, .ref (L 0 0)), (2, .ref (K 0 0)), (3, .ref o3), (4, .ref o4), (5, .int (nI (4 * (q + 1))))] []) : Aw p l e room_1 s m #[Value.ref b0] below meth c Q s.heap.size D 9 μ (100 + 640 * q) (1000 + 4300 * q) 870 [(0, .ref b0), (1, .ref (L 0 0)), (2, .ref (K 0 0)), (3, .ref o3), (4, .ref o4), (5, .int (nI (4 * q)))] [] := by
  obtain ⟨hX0, ⟨X, hM0, hR0⟩, hI, hD, ⟨f3, h3⟩, ⟨f4, h4⟩, n3, n4, m3, m4, n34⟩ := id hW
  have hq2 : q < 2 ^ 30 := by omega
  refine aw_aload_n C dL_law_870 rfl ?_
  refine aw_aload_n C dL_law_871 rfl ?_
  refine aw_callSX (n := 2) C hE (k_L_breakOff  hl9 H9 hX0 hI h3 n3) gL_law_L_breakOff rfl ⟨rfl, rfl⟩ (by decide +kernel) ⟨by decide, by decide⟩ rfl rfl (Nat.le_of_ble_eq_true rfl) dL_law_872 ⟨by show _ ≤ 601024; omega, by show _ ≤ 7293034; omega⟩ (fun _ _ h => h) (fun v μ1 hp => ?_)
  obtain ⟨rfl, hX1, ⟨f1, ho1, hf1⟩, hF1⟩ := hp
  have hM1 := hW.moved hM0 hF1 (Or.inl rfl)
  have hf3 : ∃ f : Nat → Int64, μ1 o3 = some (eJ g 1 f) := ⟨f1, ho1⟩
  have hf4 : ∃ f : Nat → UInt64, μ1 o4 = some (eD g 1 f) := ⟨f4, hF1 _ _ h4 n4 n34.symm⟩
  refine aw_st (st' := [.int (nI (brC S))]) rfl ?_
  refine aw_istore C dL_law_875 (by decide) ?_
  refine aw_aload_n C dL_law_877 rfl ?_
  refine aw_callV (n := 0) C hE (ci := 9) (q := (RX7, TX7, 22)) (k_X7_breakOff  H9.B hM1 hI hR0) gL_law_X7_breakOff rfl ⟨rfl, rfl⟩ (by decide +kernel) ⟨by decide, by decide⟩ rfl rfl hM1.mo rfl (Nat.le_of_ble_eq_true rfl) dL_law_878 ⟨by show _ ≤ 601024; omega, by show _ ≤ 7293034; omega⟩ (fun v μ2 hp => ?_)
  obtain ⟨⟨r, rfl, hr⟩, ⟨X2, hM2, hR2, hth2⟩, hF2⟩ := hp
  have hW2 : LwI g e0 L K (if brC S = 0 then (brS S) else S) o3 o4 (q + 1) μ2 := hW.step (ifn ⟨rfl, rfl⟩) (ifI (fun _ => Iv_brS hI) hI) hX1 hf3 hf4 hM2 (hR2.up (by omega)) hF2
  have ho2 := hF2 _ _ ho1 m3
  refine aw_st (st' := [.int r]) rfl ?_
  refine aw_istore C dL_law_881 (by decide) ?_
  refine aw_aload_n C dL_law_883 rfl ?_
  refine aw_callV (n := 0) C hE (ci := 9) (q := (RX7, TX7, 22)) (k_X7_thrown H9.B hM2) gL_law_X7_thrown rfl ⟨rfl, rfl⟩ (by decide +kernel) ⟨by decide, by decide⟩ rfl rfl hM2.mo rfl (Nat.le_of_ble_eq_true rfl) dL_law_884 ⟨by show _ ≤ 601024; omega, by show _ ≤ 7293034; omega⟩ (fun v μ3 hp => ?_)
  obtain ⟨rfl, hm9⟩ := hp
  replace hm9 := hm9.symm
  subst hm9
  refine aw_st (st' := [.int X2.th]) rfl ?_
  refine aw_eqi (y := nI (brC S)) hth2 ?_
  refine aw_iload C dL_law_887 rfl ?_
  refine aw_icmp_eq C (tgt := 894) dL_law_889 (by decide) (fun _ => ?_) (fun c9 => absurd rfl c9)
  refine aw_iload C dL_law_894 rfl ?_
  refine aw_if_ne C (tgt := 911) dL_law_896 (by decide) (fun c_896 => ?_) (fun c_896 => ?_)
  · refine aw_goto C (tgt := 1778) dL_law_911 (by decide) ?_
    refine aw_iinc C dL_law_1778 rfl (by decide) ?_
    refine aw_goto C (tgt := 28) dL_law_1781 (by decide) ?_
    refine aw_widen (n := 100 + 640 * (q + 1)) (k := 1000 + 4300 * (q + 1)) (by omega) (by omega) ?_
    refine aw_lv (lv' := [(0, .ref b0), (1, .ref (L 0 0)), (2, .ref (K 0 0)), (3, .ref o3), (4, .ref o4), (5, .int (nI (4 * (q + 1))))]) ⟨rfl, rfl, rfl, rfl, rfl, by rw [show 4 * (q + 1) = 4 * q + 4 by omega, ← nI_i4]; rfl, trivial⟩ ?_
    exact nx K (if brC S = 0 then (brS S) else S) _ rfl hW2
  · have hc0 : brC S = 0 := nI_inj (b := 0) lt_br (by decide) c_896
    refine aw_aload_n C dL_law_899 rfl ?_
    refine aw_iconst C (v := 0) (by decide) dL_law_900 ?_
    refine aw_laldE C ho2 (by decide : (0 : Int32) = nI 0) ⟨by decide, by decide⟩ rfl dL_law_901 ?_
    refine aw_iload C dL_law_902 rfl ?_
    refine aw_i2l C dL_law_904 ?_
    refine aw_lcmp C dL_law_905 ?_
    refine aw_eqi (y := 0) (by rw [hf1 hc0, hr hc0]; exact lg_self _) ?_
    refine aw_if_eq C (tgt := 911) dL_law_906 (by decide) (fun _ => ?_) (fun c9 => absurd (by decide) c9)
    refine aw_goto C (tgt := 1778) dL_law_911 (by decide) ?_
    refine aw_iinc C dL_law_1778 rfl (by decide) ?_
    refine aw_goto C (tgt := 28) dL_law_1781 (by decide) ?_
    refine aw_widen (n := 100 + 640 * (q + 1)) (k := 1000 + 4300 * (q + 1)) (by omega) (by omega) ?_
    refine aw_lv (lv' := [(0, .ref b0), (1, .ref (L 0 0)), (2, .ref (K 0 0)), (3, .ref o3), (4, .ref o4), (5, .int (nI (4 * (q + 1))))]) ⟨rfl, rfl, rfl, rfl, rfl, by rw [show 4 * (q + 1) = 4 * q + 4 by omega, ← nI_i4]; rfl, trivial⟩ ?_
    exact nx K (if brC S = 0 then (brS S) else S) _ rfl hW2
set_option maxRecDepth 100000 in
set_option maxHeartbeats 4000000 in
theorem lc_12 {p : Program} {l : Launch} {e : Env} {s : State} {m : MethodId} {below : List Frame} {meth : Method} {c : Code} {Q : State → Prop} {D : va_G} {g : Nat → ClassId} {b0 Ln : Nat} {xs : Nat → Int32} {e0 o3 o4 q : Nat} {L K : Nat → Nat → Nat} {S : SS} {μ : mu} (hl9 : l.stackTraces = false) (H9 : LB s) (bl : BL s g e0) (C : Cx p s m #[Value.ref b0] meth c code RL 9 wsL_law ret s.heap.size D (tyL g)) (hE : EN s s) (hXs : va_X b0 Ln xs s s.heap) (hbl : b0 < s.heap.size) (hLn : Ln ≤ 2048) (hq : 4 * q + 4 ≤ Ln) (hW : LwI g e0 L K S o3 o4 q μ) (nx : ∀ (K' : Nat → Nat → Nat) (S' : SS) (μ' : mu), K' 0 0 = K 0 0 → LwI g e0 L K' S' o3 o4 (q + 1) μ' → Aw p l e room_1 s m #[Value.ref b0] below meth c Q s.heap.size D 9 μ' (100 + 640 * (q + 1)) (1000 + 4300 * (q + 1)) 28 [(0, .ref b0), (1, .ref (L 0 0)), (2, .ref (K 0 0)), (3, .ref o3), (4, .ref o4), (5, .int (nI (4 * (q + 1))))] []) : Aw p l e room_1 s m #[Value.ref b0] below meth c Q s.heap.size D 9 μ (100 + 640 * q) (1000 + 4300 * q) 914 [(0, .ref b0), (1, .ref (L 0 0)), (2, .ref (K 0 0)), (3, .ref o3), (4, .ref o4), (5, .int (nI (4 * q)))] [] := by
  obtain ⟨hX0, ⟨X, hM0, hR0⟩, hI, hD, ⟨f3, h3⟩, ⟨f4, h4⟩, n3, n4, m3, m4, n34⟩ := id hW
  have hq2 : q < 2 ^ 30 := by omega
  refine aw_aload_n C dL_law_914 rfl ?_
  refine aw_aload_n C dL_law_915 rfl ?_
  refine aw_iload C dL_law_916 rfl ?_
  refine aw_iconst C (v := 1) (by decide) dL_law_918 ?_
  refine aw_iadd C dL_law_919 ?_
  refine aw_eqi (y := nI (4 * q + 1)) (nI_1 _) ?_
  refine aw_sld C hXs hbl (k := 4 * q + 1) (by omega) hLn dL_law_920 ?_
  refine aw_if_eq C (tgt := 928) dL_law_921 (by decide) (fun c_921 => ?_) (fun c_921 => ?_)
  · refine aw_iconst C (v := 0) (by decide) dL_law_928 ?_
    obtain ⟨fh, fv, hRC⟩ := id hX0
    refine aw_callV0 (n := 1) C hE (ci := 6) (q := (RX4, TX4, 16)) (k_X4_close (b := 0) hl9 H9.B hX0 hI (by decide)) gL_law_X4_close rfl ⟨rfl, rfl⟩ (by decide +kernel) ⟨by decide, by decide⟩ rfl rfl hRC.mn rfl (Nat.le_of_ble_eq_true rfl) dL_law_929 ⟨by show _ ≤ 601024; omega, by show _ ≤ 7293034; omega⟩ (fun _ _ h => px9_0 h.1) (fun v μ1 hp => ?_)
    obtain ⟨-, rfl, hX1, hF1⟩ := hp
    have hM1 := hW.moved hM0 (FrC.O (o := o3) hF1) (Or.inl rfl)
    have hf3 : ∃ f : Nat → Int64, μ1 o3 = some (eJ g 1 f) := ⟨f3, hF1 _ _ h3 n3⟩
    have hf4 : ∃ f : Nat → UInt64, μ1 o4 = some (eD g 1 f) := ⟨f4, hF1 _ _ h4 n4⟩
    refine aw_st (st' := [.int (S.c 7)]) rfl ?_
    refine aw_aload_n C dL_law_932 rfl ?_
    refine aw_aload_n C dL_law_933 rfl ?_
    refine aw_iload C dL_law_934 rfl ?_
    refine aw_iconst C (v := 1) (by decide) dL_law_936 ?_
    refine aw_iadd C dL_law_937 ?_
    refine aw_eqi (y := nI (4 * q + 1)) (nI_1 _) ?_
    refine aw_sld C hXs hbl (k := 4 * q + 1) (by omega) hLn dL_law_938 ?_
    refine aw_if_eq C (tgt := 946) dL_law_939 (by decide) (fun _ => ?_) (fun c9 => absurd c_921 c9)
    refine aw_iconst C (v := 0) (by decide) dL_law_946 ?_
    refine aw_callV (n := 1) C hE (ci := 9) (q := (RX7, TX7, 22)) (k_X7_close (y := 0) H9.B hM1 hI hR0 (by decide)) gL_law_X7_close rfl ⟨rfl, rfl⟩ (by decide +kernel) ⟨by decide, by decide⟩ rfl rfl hM1.mo rfl (Nat.le_of_ble_eq_true rfl) dL_law_947 ⟨by show _ ≤ 601024; omega, by show _ ≤ 7293034; omega⟩ (fun v μ2 hp => ?_)
    obtain ⟨⟨r, rfl, hr⟩, ⟨X2, hM2, hR2, hth2⟩, hF2⟩ := hp
    have hW2 : LwI g e0 L K (if (0 : Nat) = 0 then (clS S 0) else S) o3 o4 (q + 1) μ2 := hW.step (ifn ⟨rfl, rfl⟩) (ifI (fun _ => Iv_clS hI (by decide)) hI) hX1 hf3 hf4 hM2 (hR2.up (by omega)) hF2
    replace hr := hr rfl
    subst hr
    refine aw_st (st' := [.int (S.c 7), .int (S.c 7)]) rfl ?_
    refine aw_icmp_eq C (tgt := 1778) dL_law_950 (by decide) (fun _ => ?_) (fun c9 => absurd rfl c9)
    refine aw_iinc C dL_law_1778 rfl (by decide) ?_
    refine aw_goto C (tgt := 28) dL_law_1781 (by decide) ?_
    refine aw_widen (n := 100 + 640 * (q + 1)) (k := 1000 + 4300 * (q + 1)) (by omega) (by omega) ?_
    refine aw_lv (lv' := [(0, .ref b0), (1, .ref (L 0 0)), (2, .ref (K 0 0)), (3, .ref o3), (4, .ref o4), (5, .int (nI (4 * (q + 1))))]) ⟨rfl, rfl, rfl, rfl, rfl, by rw [show 4 * (q + 1) = 4 * q + 4 by omega, ← nI_i4]; rfl, trivial⟩ ?_
    exact nx K (if (0 : Nat) = 0 then (clS S 0) else S) _ rfl hW2
  · refine aw_iconst C (v := 1) (by decide) dL_law_924 ?_
    refine aw_goto C (tgt := 929) dL_law_925 (by decide) ?_
    obtain ⟨fh, fv, hRC⟩ := id hX0
    refine aw_callV0 (n := 1) C hE (ci := 6) (q := (RX4, TX4, 16)) (k_X4_close (b := 1) hl9 H9.B hX0 hI (by decide)) gL_law_X4_close rfl ⟨rfl, rfl⟩ (by decide +kernel) ⟨by decide, by decide⟩ rfl rfl hRC.mn rfl (Nat.le_of_ble_eq_true rfl) dL_law_929 ⟨by show _ ≤ 601024; omega, by show _ ≤ 7293034; omega⟩ (fun _ _ h => px9_0 h.1) (fun v μ1 hp => ?_)
    obtain ⟨-, rfl, hX1, hF1⟩ := hp
    have hM1 := hW.moved hM0 (FrC.O (o := o3) hF1) (Or.inl rfl)
    have hf3 : ∃ f : Nat → Int64, μ1 o3 = some (eJ g 1 f) := ⟨f3, hF1 _ _ h3 n3⟩
    have hf4 : ∃ f : Nat → UInt64, μ1 o4 = some (eD g 1 f) := ⟨f4, hF1 _ _ h4 n4⟩
    refine aw_st (st' := [.int (S.c 7)]) rfl ?_
    refine aw_aload_n C dL_law_932 rfl ?_
    refine aw_aload_n C dL_law_933 rfl ?_
    refine aw_iload C dL_law_934 rfl ?_
    refine aw_iconst C (v := 1) (by decide) dL_law_936 ?_
    refine aw_iadd C dL_law_937 ?_
    refine aw_eqi (y := nI (4 * q + 1)) (nI_1 _) ?_
    refine aw_sld C hXs hbl (k := 4 * q + 1) (by omega) hLn dL_law_938 ?_
    refine aw_if_eq C (tgt := 946) dL_law_939 (by decide) (fun c9 => absurd c9 c_921) (fun _ => ?_)
    refine aw_iconst C (v := 1) (by decide) dL_law_942 ?_
    refine aw_goto C (tgt := 947) dL_law_943 (by decide) ?_
    refine aw_callV (n := 1) C hE (ci := 9) (q := (RX7, TX7, 22)) (k_X7_close (y := 1) H9.B hM1 hI hR0 (by decide)) gL_law_X7_close rfl ⟨rfl, rfl⟩ (by decide +kernel) ⟨by decide, by decide⟩ rfl rfl hM1.mo rfl (Nat.le_of_ble_eq_true rfl) dL_law_947 ⟨by show _ ≤ 601024; omega, by show _ ≤ 7293034; omega⟩ (fun v μ2 hp => ?_)
    obtain ⟨⟨r, rfl, hr⟩, ⟨X2, hM2, hR2, hth2⟩, hF2⟩ := hp
    have hW2 : LwI g e0 L K (if (0 : Nat) = 0 then (clS S 1) else S) o3 o4 (q + 1) μ2 := hW.step (ifn ⟨rfl, rfl⟩) (ifI (fun _ => Iv_clS hI (by decide)) hI) hX1 hf3 hf4 hM2 (hR2.up (by omega)) hF2
    replace hr := hr rfl
    subst hr
    refine aw_st (st' := [.int (S.c 7), .int (S.c 7)]) rfl ?_
    refine aw_icmp_eq C (tgt := 1778) dL_law_950 (by decide) (fun _ => ?_) (fun c9 => absurd rfl c9)
    refine aw_iinc C dL_law_1778 rfl (by decide) ?_
    refine aw_goto C (tgt := 28) dL_law_1781 (by decide) ?_
    refine aw_widen (n := 100 + 640 * (q + 1)) (k := 1000 + 4300 * (q + 1)) (by omega) (by omega) ?_
    refine aw_lv (lv' := [(0, .ref b0), (1, .ref (L 0 0)), (2, .ref (K 0 0)), (3, .ref o3), (4, .ref o4), (5, .int (nI (4 * (q + 1))))]) ⟨rfl, rfl, rfl, rfl, rfl, by rw [show 4 * (q + 1) = 4 * q + 4 by omega, ← nI_i4]; rfl, trivial⟩ ?_
    exact nx K (if (0 : Nat) = 0 then (clS S 1) else S) _ rfl hW2
set_option maxRecDepth 100000 in
set_option maxHeartbeats 4000000 in
theorem lc_13 {p : Program} {l : Launch} {e : Env} {s : State} {m : MethodId} {below : List Frame} {meth : Method} {c : Code} {Q : State → Prop} {D : va_G} {g : Nat → ClassId} {b0 Ln : Nat} {xs : Nat → Int32} {e0 o3 o4 q : Nat} {L K : Nat → Nat → Nat} {S : SS} {μ : mu} (hl9 : l.stackTraces = false) (H9 : LB s) (bl : BL s g e0) (C : Cx p s m #[Value.ref b0] meth c code RL 9 wsL_law ret s.heap.size D (tyL g)) (hE : EN s s) (hXs : va_X b0 Ln xs s s.heap) (hbl : b0 < s.heap.size) (hLn : Ln ≤ 2048) (hq : 4 * q + 4 ≤ Ln) (hW : LwI g e0 L K S o3 o4 q μ) (nx : ∀ (K' : Nat → Nat → Nat) (S' : SS) (μ' : mu), K' 0 0 = K 0 0 → LwI g e0 L K' S' o3 o4 (q + 1) μ' → Aw p l e room_1 s m #[Value.ref b0] below meth c Q s.heap.size D 9 μ' (100 + 640 * (q + 1)) (1000 + 4300 * (q + 1)) 28 [(0, .ref b0), (1, .ref (L 0 0)), (2, .ref (K 0 0)), (3, .ref o3), (4, .ref o4), (5, .int (nI (4 * (q + 1))))] []) : Aw p l e room_1 s m #[Value.ref b0] below meth c Q s.heap.size D 9 μ (100 + 640 * q) (1000 + 4300 * q) 955 [(0, .ref b0), (1, .ref (L 0 0)), (2, .ref (K 0 0)), (3, .ref o3), (4, .ref o4), (5, .int (nI (4 * q)))] [] := by
  obtain ⟨hX0, ⟨X, hM0, hR0⟩, hI, hD, ⟨f3, h3⟩, ⟨f4, h4⟩, n3, n4, m3, m4, n34⟩ := id hW
  have hq2 : q < 2 ^ 30 := by omega
  refine aw_aload_n C dL_law_955 rfl ?_
  obtain ⟨fh, fv, hRC⟩ := id hX0
  refine aw_callV0 (n := 0) C hE (ci := 6) (q := (RX4, TX4, 16)) (k_X4_horn  hl9 H9.B hX0 hI) gL_law_X4_horn rfl ⟨rfl, rfl⟩ (by decide +kernel) ⟨by decide, by decide⟩ rfl rfl hRC.mn rfl (Nat.le_of_ble_eq_true rfl) dL_law_956 ⟨by show _ ≤ 601024; omega, by show _ ≤ 7293034; omega⟩ (fun _ _ h => px9_0 h.1) (fun v μ1 hp => ?_)
  obtain ⟨-, rfl, hX1, hF1⟩ := hp
  have hM1 := hW.moved hM0 (FrC.O (o := o3) hF1) (Or.inl rfl)
  have hf3 : ∃ f : Nat → Int64, μ1 o3 = some (eJ g 1 f) := ⟨f3, hF1 _ _ h3 n3⟩
  have hf4 : ∃ f : Nat → UInt64, μ1 o4 = some (eD g 1 f) := ⟨f4, hF1 _ _ h4 n4⟩
  refine aw_st (st' := [.int (S.c 11 + 1)]) rfl ?_
  refine aw_aload_n C dL_law_959 rfl ?_
  refine aw_callV (n := 0) C hE (ci := 9) (q := (RX7, TX7, 22)) (k_X7_horn  H9.B hM1 hI hR0) gL_law_X7_horn rfl ⟨rfl, rfl⟩ (by decide +kernel) ⟨by decide, by decide⟩ rfl rfl hM1.mo rfl (Nat.le_of_ble_eq_true rfl) dL_law_960 ⟨by show _ ≤ 601024; omega, by show _ ≤ 7293034; omega⟩ (fun v μ2 hp => ?_)
  obtain ⟨⟨r, rfl, hr⟩, ⟨X2, hM2, hR2, hth2⟩, hF2⟩ := hp
  have hW2 : LwI g e0 L K (if (0 : Nat) = 0 then (hoS S) else S) o3 o4 (q + 1) μ2 := hW.step (ifn ⟨rfl, rfl⟩) (ifI (fun _ => Iv_hoS hI) hI) hX1 hf3 hf4 hM2 (hR2.up (by omega)) hF2
  replace hr := hr rfl
  subst hr
  refine aw_st (st' := [.int (S.c 11 + 1), .int (S.c 11 + 1)]) rfl ?_
  refine aw_icmp_eq C (tgt := 1778) dL_law_963 (by decide) (fun _ => ?_) (fun c9 => absurd rfl c9)
  refine aw_iinc C dL_law_1778 rfl (by decide) ?_
  refine aw_goto C (tgt := 28) dL_law_1781 (by decide) ?_
  refine aw_widen (n := 100 + 640 * (q + 1)) (k := 1000 + 4300 * (q + 1)) (by omega) (by omega) ?_
  refine aw_lv (lv' := [(0, .ref b0), (1, .ref (L 0 0)), (2, .ref (K 0 0)), (3, .ref o3), (4, .ref o4), (5, .int (nI (4 * (q + 1))))]) ⟨rfl, rfl, rfl, rfl, rfl, by rw [show 4 * (q + 1) = 4 * q + 4 by omega, ← nI_i4]; rfl, trivial⟩ ?_
  exact nx K (if (0 : Nat) = 0 then (hoS S) else S) _ rfl hW2
