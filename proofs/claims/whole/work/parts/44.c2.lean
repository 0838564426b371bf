/-! ===== the law: a call of the script ===== -/
set_option maxRecDepth 100000 in
set_option maxHeartbeats 4000000 in
theorem lc_14 {p : Program} {l : Launch} {e : Env} {s : State} {m : MethodId} {below : List Frame} {meth : Method} {c : Code} {Q : State → Prop} {D : va_G} {g : Nat → ClassId} {b0 Ln : Nat} {xs : Nat → Int32} {e0 o3 o4 q : Nat} {L K : Nat → Nat → Nat} {S : SS} {μ : mu} (hl9 : l.stackTraces = false) (H9 : LB s) (bl : BL s g e0) (C : Cx p s m #[Value.ref b0] meth c code RL 9 wsL_law ret s.heap.size D (tyL g)) (hE : EN s s) (hXs : va_X b0 Ln xs s s.heap) (hbl : b0 < s.heap.size) (hLn : Ln ≤ 2048) (hq : 4 * q + 4 ≤ Ln) (hW : LwI g e0 L K S o3 o4 q μ) (nx : ∀ (K' : Nat → Nat → Nat) (S' : SS) (μ' : mu), K' 0 0 = K 0 0 → LwI g e0 L K' S' o3 o4 (q + 1) μ' → Aw p l e room_1 s m #[Value.ref b0] below meth c Q s.heap.size D 9 μ' (100 + 640 * (q + 1)) (1000 + 4300 * (q + 1)) 28 [(0, .ref b0), (1, .ref (L 0 0)), (2, .ref (K 0 0)), (3, .ref o3), (4, .ref o4), (5, .int (nI (4 * (q + 1))))] []) : Aw p l e room_1 s m #[Value.ref b0] below meth c Q s.heap.size D 9 μ (100 + 640 * q) (1000 + 4300 * q) 968 [(0, .ref b0), (1, .ref (L 0 0)), (2, .ref (K 0 0)), (3, .ref o3), (4, .ref o4), (5, .int (nI (4 * q)))] [] := by
  obtain ⟨hX0, ⟨X, hM0, hR0⟩, hI, hD, ⟨f3, h3⟩, ⟨f4, h4⟩, n3, n4, m3, m4, n34⟩ := id hW
  have hq2 : q < 2 ^ 30 := by omega
  refine aw_aload_n C dL_law_968 rfl ?_
  refine aw_aload_n C dL_law_969 rfl ?_
  refine aw_iload C dL_law_970 rfl ?_
  refine aw_iconst C (v := 1) (by decide) dL_law_972 ?_
  refine aw_iadd C dL_law_973 ?_
  refine aw_eqi (y := nI (4 * q + 1)) (nI_1 _) ?_
  refine aw_sld C hXs hbl (k := 4 * q + 1) (by omega) hLn dL_law_974 ?_
  refine aw_aload_n C dL_law_975 rfl ?_
  refine aw_iload C dL_law_976 rfl ?_
  refine aw_iconst C (v := 2) (by decide) dL_law_978 ?_
  refine aw_iadd C dL_law_979 ?_
  refine aw_eqi (y := nI (4 * q + 2)) (nI_a2 _) ?_
  refine aw_sld C hXs hbl (k := 4 * q + 2) (by omega) hLn dL_law_980 ?_
  refine aw_aload_n C dL_law_981 rfl ?_
  refine aw_callSX (n := 4) C hE (k_L_ofArcher (x := xs (4 * q + 1)) (w := xs (4 * q + 2)) hl9 H9 hX0 hI h3 n3) gL_law_L_ofArcher rfl ⟨rfl, rfl⟩ (by decide +kernel) ⟨by decide, by decide⟩ rfl rfl (Nat.le_of_ble_eq_true rfl) dL_law_982 ⟨by show _ ≤ 601024; omega, by show _ ≤ 7293034; omega⟩ (fun _ _ h => h) (fun v μ1 hp => ?_)
  obtain ⟨rfl, hX1, ⟨f1, ho1, hf1⟩, hF1⟩ := hp
  have hM1 := hW.moved hM0 hF1 (Or.inl rfl)
  have hf3 : ∃ f : Nat → Int64, μ1 o3 = some (eJ g 1 f) := ⟨f1, ho1⟩
  have hf4 : ∃ f : Nat → UInt64, μ1 o4 = some (eD g 1 f) := ⟨f4, hF1 _ _ h4 n4 n34.symm⟩
  refine aw_st (st' := [.int (nI (oaC S (xs (4 * q + 1)) (xs (4 * q + 2))))]) rfl ?_
  refine aw_istore C dL_law_985 (by decide) ?_
  refine aw_aload_n C dL_law_987 rfl ?_
  refine aw_aload_n C dL_law_988 rfl ?_
  refine aw_iload C dL_law_989 rfl ?_
  refine aw_iconst C (v := 1) (by decide) dL_law_991 ?_
  refine aw_iadd C dL_law_992 ?_
  refine aw_eqi (y := nI (4 * q + 1)) (nI_1 _) ?_
  refine aw_sld C hXs hbl (k := 4 * q + 1) (by omega) hLn dL_law_993 ?_
  refine aw_aload_n C dL_law_994 rfl ?_
  refine aw_iload C dL_law_995 rfl ?_
  refine aw_iconst C (v := 2) (by decide) dL_law_997 ?_
  refine aw_iadd C dL_law_998 ?_
  refine aw_eqi (y := nI (4 * q + 2)) (nI_a2 _) ?_
  refine aw_sld C hXs hbl (k := 4 * q + 2) (by omega) hLn dL_law_999 ?_
  refine aw_callV (n := 2) C hE (ci := 9) (q := (RX7, TX7, 22)) (k_X7_ofArcher (x := xs (4 * q + 1)) (w := xs (4 * q + 2)) H9.B hM1 hI hR0) gL_law_X7_ofArcher rfl ⟨rfl, rfl⟩ (by decide +kernel) ⟨by decide, by decide⟩ rfl rfl hM1.mo rfl (Nat.le_of_ble_eq_true rfl) dL_law_1000 ⟨by show _ ≤ 601024; omega, by show _ ≤ 7293034; omega⟩ (fun v μ2 hp => ?_)
  obtain ⟨⟨r, rfl, hr⟩, ⟨X2, hM2, hR2, hth2⟩, hF2⟩ := hp
  have hW2 : LwI g e0 L K (if oaC S (xs (4 * q + 1)) (xs (4 * q + 2)) = 0 then S else S) o3 o4 (q + 1) μ2 := hW.step (ifn ⟨rfl, rfl⟩) (ifI (fun _ => hI) hI) hX1 hf3 hf4 hM2 (hR2.up (by omega)) hF2
  have ho2 := hF2 _ _ ho1 m3
  refine aw_st (st' := [.int r]) rfl ?_
  refine aw_istore C dL_law_1003 (by decide) ?_
  refine aw_aload_n C dL_law_1005 rfl ?_
  refine aw_callV (n := 0) C hE (ci := 9) (q := (RX7, TX7, 22)) (k_X7_thrown H9.B hM2) gL_law_X7_thrown rfl ⟨rfl, rfl⟩ (by decide +kernel) ⟨by decide, by decide⟩ rfl rfl hM2.mo rfl (Nat.le_of_ble_eq_true rfl) dL_law_1006 ⟨by show _ ≤ 601024; omega, by show _ ≤ 7293034; omega⟩ (fun v μ3 hp => ?_)
  obtain ⟨rfl, hm9⟩ := hp
  replace hm9 := hm9.symm
  subst hm9
  refine aw_st (st' := [.int X2.th]) rfl ?_
  refine aw_eqi (y := nI (oaC S (xs (4 * q + 1)) (xs (4 * q + 2)))) hth2 ?_
  refine aw_iload C dL_law_1009 rfl ?_
  refine aw_icmp_eq C (tgt := 1016) dL_law_1011 (by decide) (fun _ => ?_) (fun c9 => absurd rfl c9)
  refine aw_iload C dL_law_1016 rfl ?_
  refine aw_if_ne C (tgt := 1033) dL_law_1018 (by decide) (fun c_1018 => ?_) (fun c_1018 => ?_)
  · refine aw_goto C (tgt := 1778) dL_law_1033 (by decide) ?_
    refine aw_iinc C dL_law_1778 rfl (by decide) ?_
    refine aw_goto C (tgt := 28) dL_law_1781 (by decide) ?_
    refine aw_widen (n := 100 + 640 * (q + 1)) (k := 1000 + 4300 * (q + 1)) (by omega) (by omega) ?_
    refine aw_lv (lv' := [(0, .ref b0), (1, .ref (L 0 0)), (2, .ref (K 0 0)), (3, .ref o3), (4, .ref o4), (5, .int (nI (4 * (q + 1))))]) ⟨rfl, rfl, rfl, rfl, rfl, by rw [show 4 * (q + 1) = 4 * q + 4 by omega, ← nI_i4]; rfl, trivial⟩ ?_
    exact nx K (if oaC S (xs (4 * q + 1)) (xs (4 * q + 2)) = 0 then S else S) _ rfl hW2
  · have hc0 : oaC S (xs (4 * q + 1)) (xs (4 * q + 2)) = 0 := nI_inj (b := 0) lt_oa (by decide) c_1018
    refine aw_aload_n C dL_law_1021 rfl ?_
    refine aw_iconst C (v := 0) (by decide) dL_law_1022 ?_
    refine aw_laldE C ho2 (by decide : (0 : Int32) = nI 0) ⟨by decide, by decide⟩ rfl dL_law_1023 ?_
    refine aw_iload C dL_law_1024 rfl ?_
    refine aw_i2l C dL_law_1026 ?_
    refine aw_lcmp C dL_law_1027 ?_
    refine aw_eqi (y := 0) (by rw [hf1 hc0, hr hc0]; exact lg_self _) ?_
    refine aw_if_eq C (tgt := 1033) dL_law_1028 (by decide) (fun _ => ?_) (fun c9 => absurd (by decide) c9)
    refine aw_goto C (tgt := 1778) dL_law_1033 (by decide) ?_
    refine aw_iinc C dL_law_1778 rfl (by decide) ?_
    refine aw_goto C (tgt := 28) dL_law_1781 (by decide) ?_
    refine aw_widen (n := 100 + 640 * (q + 1)) (k := 1000 + 4300 * (q + 1)) (by omega) (by omega) ?_
    refine aw_lv (lv' := [(0, .ref b0), (1, .ref (L 0 0)), (2, .ref (K 0 0)), (3, .ref o3), (4, .ref o4), (5, .int (nI (4 * (q + 1))))]) ⟨rfl, rfl, rfl, rfl, rfl, by rw [show 4 * (q + 1) = 4 * q + 4 by omega, ← nI_i4]; rfl, trivial⟩ ?_
    exact nx K (if oaC S (xs (4 * q + 1)) (xs (4 * q + 2)) = 0 then S else S) _ rfl hW2
set_option maxRecDepth 100000 in
set_option maxHeartbeats 4000000 in
theorem lc_15 {p : Program} {l : Launch} {e : Env} {s : State} {m : MethodId} {below : List Frame} {meth : Method} {c : Code} {Q : State → Prop} {D : va_G} {g : Nat → ClassId} {b0 Ln : Nat} {xs : Nat → Int32} {e0 o3 o4 q : Nat} {L K : Nat → Nat → Nat} {S : SS} {μ : mu} (hl9 : l.stackTraces = false) (H9 : LB s) (bl : BL s g e0) (C : Cx p s m #[Value.ref b0] meth c code RL 9 wsL_law ret s.heap.size D (tyL g)) (hE : EN s s) (hXs : va_X b0 Ln xs s s.heap) (hbl : b0 < s.heap.size) (hLn : Ln ≤ 2048) (hq : 4 * q + 4 ≤ Ln) (hW : LwI g e0 L K S o3 o4 q μ) (nx : ∀ (K' : Nat → Nat → Nat) (S' : SS) (μ' : mu), K' 0 0 = K 0 0 → LwI g e0 L K' S' o3 o4 (q + 1) μ' → Aw p l e room_1 s m #[Value.ref b0] below meth c Q s.heap.size D 9 μ' (100 + 640 * (q + 1)) (1000 + 4300 * (q + 1)) 28 [(0, .ref b0), (1, .ref (L 0 0)), (2, .ref (K 0 0)), (3, .ref o3), (4, .ref o4), (5, .int (nI (4 * (q + 1))))] []) : Aw p l e room_1 s m #[Value.ref b0] below meth c Q s.heap.size D 9 μ (100 + 640 * q) (1000 + 4300 * q) 1036 [(0, .ref b0), (1, .ref (L 0 0)), (2, .ref (K 0 0)), (3, .ref o3), (4, .ref o4), (5, .int (nI (4 * q)))] [] := by
  obtain ⟨hX0, ⟨X, hM0, hR0⟩, hI, hD, ⟨f3, h3⟩, ⟨f4, h4⟩, n3, n4, m3, m4, n34⟩ := id hW
  have hq2 : q < 2 ^ 30 := by omega
  refine aw_aload_n C dL_law_1036 rfl ?_
  refine aw_aload_n C dL_law_1037 rfl ?_
  refine aw_iload C dL_law_1038 rfl ?_
  refine aw_iconst C (v := 1) (by decide) dL_law_1040 ?_
  refine aw_iadd C dL_law_1041 ?_
  refine aw_eqi (y := nI (4 * q + 1)) (nI_1 _) ?_
  refine aw_sld C hXs hbl (k := 4 * q + 1) (by omega) hLn dL_law_1042 ?_
  refine aw_aload C dL_law_1043 rfl ?_
  refine aw_callSX (n := 3) C hE (k_L_speed (x := xs (4 * q + 1)) hl9 H9 hX0 hI h4 n4) gL_law_L_speed rfl ⟨rfl, rfl⟩ (by decide +kernel) ⟨by decide, by decide⟩ rfl rfl (Nat.le_of_ble_eq_true rfl) dL_law_1045 ⟨by show _ ≤ 601024; omega, by show _ ≤ 7293034; omega⟩ (fun _ _ h => h) (fun v μ1 hp => ?_)
  obtain ⟨rfl, hX1, ⟨f1, ho1, hf1⟩, hF1⟩ := hp
  have hM1 := hW.moved hM0 hF1 (Or.inr rfl)
  have hf4 : ∃ f : Nat → UInt64, μ1 o4 = some (eD g 1 f) := ⟨f1, ho1⟩
  have hf3 : ∃ f : Nat → Int64, μ1 o3 = some (eJ g 1 f) := ⟨f3, hF1 _ _ h3 n3 n34⟩
  refine aw_st (st' := [.int (nI (stC S (xs (4 * q + 1))))]) rfl ?_
  refine aw_istore C dL_law_1048 (by decide) ?_
  refine aw_aload_n C dL_law_1050 rfl ?_
  refine aw_aload_n C dL_law_1051 rfl ?_
  refine aw_iload C dL_law_1052 rfl ?_
  refine aw_iconst C (v := 1) (by decide) dL_law_1054 ?_
  refine aw_iadd C dL_law_1055 ?_
  refine aw_eqi (y := nI (4 * q + 1)) (nI_1 _) ?_
  refine aw_sld C hXs hbl (k := 4 * q + 1) (by omega) hLn dL_law_1056 ?_
  refine aw_callV (n := 1) C hE (ci := 9) (q := (RX7, TX7, 22)) (k_X7_speed_ (x := xs (4 * q + 1)) H9.B hM1 hI hR0) gL_law_X7_speed_ rfl ⟨rfl, rfl⟩ (by decide +kernel) ⟨by decide, by decide⟩ rfl rfl hM1.mo rfl (Nat.le_of_ble_eq_true rfl) dL_law_1057 ⟨by show _ ≤ 601024; omega, by show _ ≤ 7293034; omega⟩ (fun v μ2 hp => ?_)
  obtain ⟨⟨r, rfl, hr⟩, ⟨X2, hM2, hR2, hth2⟩, hF2⟩ := hp
  have hW2 : LwI g e0 L K (if stC S (xs (4 * q + 1)) = 0 then S else S) o3 o4 (q + 1) μ2 := hW.step (ifn ⟨rfl, rfl⟩) (ifI (fun _ => hI) hI) hX1 hf3 hf4 hM2 (hR2.up (by omega)) hF2
  have ho2 := hF2 _ _ ho1 m4
  refine aw_st (st' := [.double r]) rfl ?_
  refine aw_dstore C dL_law_1060 (by decide) ?_
  refine aw_aload_n C dL_law_1062 rfl ?_
  refine aw_callV (n := 0) C hE (ci := 9) (q := (RX7, TX7, 22)) (k_X7_thrown H9.B hM2) gL_law_X7_thrown rfl ⟨rfl, rfl⟩ (by decide +kernel) ⟨by decide, by decide⟩ rfl rfl hM2.mo rfl (Nat.le_of_ble_eq_true rfl) dL_law_1063 ⟨by show _ ≤ 601024; omega, by show _ ≤ 7293034; omega⟩ (fun v μ3 hp => ?_)
  obtain ⟨rfl, hm9⟩ := hp
  replace hm9 := hm9.symm
  subst hm9
  refine aw_st (st' := [.int X2.th]) rfl ?_
  refine aw_eqi (y := nI (stC S (xs (4 * q + 1)))) hth2 ?_
  refine aw_iload C dL_law_1066 rfl ?_
  refine aw_icmp_eq C (tgt := 1073) dL_law_1068 (by decide) (fun _ => ?_) (fun c9 => absurd rfl c9)
  refine aw_iload C dL_law_1073 rfl ?_
  refine aw_if_ne C (tgt := 1110) dL_law_1075 (by decide) (fun c_1075 => ?_) (fun c_1075 => ?_)
  · refine aw_goto C (tgt := 1778) dL_law_1110 (by decide) ?_
    refine aw_iinc C dL_law_1778 rfl (by decide) ?_
    refine aw_goto C (tgt := 28) dL_law_1781 (by decide) ?_
    refine aw_widen (n := 100 + 640 * (q + 1)) (k := 1000 + 4300 * (q + 1)) (by omega) (by omega) ?_
    refine aw_lv (lv' := [(0, .ref b0), (1, .ref (L 0 0)), (2, .ref (K 0 0)), (3, .ref o3), (4, .ref o4), (5, .int (nI (4 * (q + 1))))]) ⟨rfl, rfl, rfl, rfl, rfl, by rw [show 4 * (q + 1) = 4 * q + 4 by omega, ← nI_i4]; rfl, trivial⟩ ?_
    exact nx K (if stC S (xs (4 * q + 1)) = 0 then S else S) _ rfl hW2
  · have hc0 : stC S (xs (4 * q + 1)) = 0 := nI_inj (b := 0) lt_st (by decide) c_1075
    refine aw_aload C dL_law_1078 rfl ?_
    refine aw_iconst C (v := 0) (by decide) dL_law_1080 ?_
    refine aw_daldE C ho2 (by decide : (0 : Int32) = nI 0) ⟨by decide, by decide⟩ rfl dL_law_1081 ?_
    refine aw_dload C dL_law_1082 rfl ?_
    refine aw_dcmp C dL_law_1084 ?_
    refine aw_eqi (y := 0) (by rw [hf1 hc0, hr hc0]; exact (kv_eq0 (nn_sd hI hc0) (nn_sd hI hc0) .l).mpr rfl) ?_
    refine aw_if_eq C (tgt := 1110) dL_law_1085 (by decide) (fun _ => ?_) (fun c9 => absurd (by decide) c9)
    refine aw_goto C (tgt := 1778) dL_law_1110 (by decide) ?_
    refine aw_iinc C dL_law_1778 rfl (by decide) ?_
    refine aw_goto C (tgt := 28) dL_law_1781 (by decide) ?_
    refine aw_widen (n := 100 + 640 * (q + 1)) (k := 1000 + 4300 * (q + 1)) (by omega) (by omega) ?_
    refine aw_lv (lv' := [(0, .ref b0), (1, .ref (L 0 0)), (2, .ref (K 0 0)), (3, .ref o3), (4, .ref o4), (5, .int (nI (4 * (q + 1))))]) ⟨rfl, rfl, rfl, rfl, rfl, by rw [show 4 * (q + 1) = 4 * q + 4 by omega, ← nI_i4]; rfl, trivial⟩ ?_
    exact nx K (if stC S (xs (4 * q + 1)) = 0 then S else S) _ rfl hW2
set_option maxRecDepth 100000 in
set_option maxHeartbeats 4000000 in
theorem lc_16 {p : Program} {l : Launch} {e : Env} {s : State} {m : MethodId} {below : List Frame} {meth : Method} {c : Code} {Q : State → Prop} {D : va_G} {g : Nat → ClassId} {b0 Ln : Nat} {xs : Nat → Int32} {e0 o3 o4 q : Nat} {L K : Nat → Nat → Nat} {S : SS} {μ : mu} (hl9 : l.stackTraces = false) (H9 : LB s) (bl : BL s g e0) (C : Cx p s m #[Value.ref b0] meth c code RL 9 wsL_law ret s.heap.size D (tyL g)) (hE : EN s s) (hXs : va_X b0 Ln xs s s.heap) (hbl : b0 < s.heap.size) (hLn : Ln ≤ 2048) (hq : 4 * q + 4 ≤ Ln) (hW : LwI g e0 L K S o3 o4 q μ) (nx : ∀ (K' : Nat → Nat → Nat) (S' : SS) (μ' : mu), K' 0 0 = K 0 0 → LwI g e0 L K' S' o3 o4 (q + 1) μ' → Aw p l e room_1 s m #[Value.ref b0] below meth c Q s.heap.size D 9 μ' (100 + 640 * (q + 1)) (1000 + 4300 * (q + 1)) 28 [(0, .ref b0), (1, .ref (L 0 0)), (2, .ref (K 0 0)), (3, .ref o3), (4, .ref o4), (5, .int (nI (4 * (q + 1))))] []) : Aw p l e room_1 s m #[Value.ref b0] below meth c Q s.heap.size D 9 μ (100 + 640 * q) (1000 + 4300 * q) 1113 [(0, .ref b0), (1, .ref (L 0 0)), (2, .ref (K 0 0)), (3, .ref o3), (4, .ref o4), (5, .int (nI (4 * q)))] [] := by
  obtain ⟨hX0, ⟨X, hM0, hR0⟩, hI, hD, ⟨f3, h3⟩, ⟨f4, h4⟩, n3, n4, m3, m4, n34⟩ := id hW
  have hq2 : q < 2 ^ 30 := by omega
  refine aw_aload_n C dL_law_1113 rfl ?_
  refine aw_aload_n C dL_law_1114 rfl ?_
  refine aw_iload C dL_law_1115 rfl ?_
  refine aw_iconst C (v := 1) (by decide) dL_law_1117 ?_
  refine aw_iadd C dL_law_1118 ?_
  refine aw_eqi (y := nI (4 * q + 1)) (nI_1 _) ?_
  refine aw_sld C hXs hbl (k := 4 * q + 1) (by omega) hLn dL_law_1119 ?_
  refine aw_aload_n C dL_law_1120 rfl ?_
  refine aw_iload C dL_law_1121 rfl ?_
  refine aw_iconst C (v := 2) (by decide) dL_law_1123 ?_
  refine aw_iadd C dL_law_1124 ?_
  refine aw_eqi (y := nI (4 * q + 2)) (nI_a2 _) ?_
  refine aw_sld C hXs hbl (k := 4 * q + 2) (by omega) hLn dL_law_1125 ?_
  refine aw_aload_n C dL_law_1126 rfl ?_
  refine aw_callSX (n := 4) C hE (k_L_ofQuiver (x := xs (4 * q + 1)) (w := xs (4 * q + 2)) hl9 H9 hX0 hI h3 n3) gL_law_L_ofQuiver rfl ⟨rfl, rfl⟩ (by decide +kernel) ⟨by decide, by decide⟩ rfl rfl (Nat.le_of_ble_eq_true rfl) dL_law_1127 ⟨by show _ ≤ 601024; omega, by show _ ≤ 7293034; omega⟩ (fun _ _ h => h) (fun v μ1 hp => ?_)
  obtain ⟨rfl, hX1, ⟨f1, ho1, hf1⟩, hF1⟩ := hp
  have hM1 := hW.moved hM0 hF1 (Or.inl rfl)
  have hf3 : ∃ f : Nat → Int64, μ1 o3 = some (eJ g 1 f) := ⟨f1, ho1⟩
  have hf4 : ∃ f : Nat → UInt64, μ1 o4 = some (eD g 1 f) := ⟨f4, hF1 _ _ h4 n4 n34.symm⟩
  refine aw_st (st' := [.int (nI (oqC S (xs (4 * q + 1)) (xs (4 * q + 2))))]) rfl ?_
  refine aw_istore C dL_law_1130 (by decide) ?_
  refine aw_aload_n C dL_law_1132 rfl ?_
  refine aw_aload_n C dL_law_1133 rfl ?_
  refine aw_iload C dL_law_1134 rfl ?_
  refine aw_iconst C (v := 1) (by decide) dL_law_1136 ?_
  refine aw_iadd C dL_law_1137 ?_
  refine aw_eqi (y := nI (4 * q + 1)) (nI_1 _) ?_
  refine aw_sld C hXs hbl (k := 4 * q + 1) (by omega) hLn dL_law_1138 ?_
  refine aw_aload_n C dL_law_1139 rfl ?_
  refine aw_iload C dL_law_1140 rfl ?_
  refine aw_iconst C (v := 2) (by decide) dL_law_1142 ?_
  refine aw_iadd C dL_law_1143 ?_
  refine aw_eqi (y := nI (4 * q + 2)) (nI_a2 _) ?_
  refine aw_sld C hXs hbl (k := 4 * q + 2) (by omega) hLn dL_law_1144 ?_
  refine aw_callV (n := 2) C hE (ci := 9) (q := (RX7, TX7, 22)) (k_X7_ofQuiver (x := xs (4 * q + 1)) (w := xs (4 * q + 2)) H9.B hM1 hI hR0) gL_law_X7_ofQuiver rfl ⟨rfl, rfl⟩ (by decide +kernel) ⟨by decide, by decide⟩ rfl rfl hM1.mo rfl (Nat.le_of_ble_eq_true rfl) dL_law_1145 ⟨by show _ ≤ 601024; omega, by show _ ≤ 7293034; omega⟩ (fun v μ2 hp => ?_)
  obtain ⟨⟨r, rfl, hr⟩, ⟨X2, hM2, hR2, hth2⟩, hF2⟩ := hp
  have hW2 : LwI g e0 L K (if oqC S (xs (4 * q + 1)) (xs (4 * q + 2)) = 0 then S else S) o3 o4 (q + 1) μ2 := hW.step (ifn ⟨rfl, rfl⟩) (ifI (fun _ => hI) hI) hX1 hf3 hf4 hM2 (hR2.up (by omega)) hF2
  have ho2 := hF2 _ _ ho1 m3
  refine aw_st (st' := [.int r]) rfl ?_
  refine aw_istore C dL_law_1148 (by decide) ?_
  refine aw_aload_n C dL_law_1150 rfl ?_
  refine aw_callV (n := 0) C hE (ci := 9) (q := (RX7, TX7, 22)) (k_X7_thrown H9.B hM2) gL_law_X7_thrown rfl ⟨rfl, rfl⟩ (by decide +kernel) ⟨by decide, by decide⟩ rfl rfl hM2.mo rfl (Nat.le_of_ble_eq_true rfl) dL_law_1151 ⟨by show _ ≤ 601024; omega, by show _ ≤ 7293034; omega⟩ (fun v μ3 hp => ?_)
  obtain ⟨rfl, hm9⟩ := hp
  replace hm9 := hm9.symm
  subst hm9
  refine aw_st (st' := [.int X2.th]) rfl ?_
  refine aw_eqi (y := nI (oqC S (xs (4 * q + 1)) (xs (4 * q + 2)))) hth2 ?_
  refine aw_iload C dL_law_1154 rfl ?_
  refine aw_icmp_eq C (tgt := 1161) dL_law_1156 (by decide) (fun _ => ?_) (fun c9 => absurd rfl c9)
  refine aw_iload C dL_law_1161 rfl ?_
  refine aw_if_ne C (tgt := 1178) dL_law_1163 (by decide) (fun c_1163 => ?_) (fun c_1163 => ?_)
  · refine aw_goto C (tgt := 1778) dL_law_1178 (by decide) ?_
    refine aw_iinc C dL_law_1778 rfl (by decide) ?_
    refine aw_goto C (tgt := 28) dL_law_1781 (by decide) ?_
    refine aw_widen (n := 100 + 640 * (q + 1)) (k := 1000 + 4300 * (q + 1)) (by omega) (by omega) ?_
    refine aw_lv (lv' := [(0, .ref b0), (1, .ref (L 0 0)), (2, .ref (K 0 0)), (3, .ref o3), (4, .ref o4), (5, .int (nI (4 * (q + 1))))]) ⟨rfl, rfl, rfl, rfl, rfl, by rw [show 4 * (q + 1) = 4 * q + 4 by omega, ← nI_i4]; rfl, trivial⟩ ?_
    exact nx K (if oqC S (xs (4 * q + 1)) (xs (4 * q + 2)) = 0 then S else S) _ rfl hW2
  · have hc0 : oqC S (xs (4 * q + 1)) (xs (4 * q + 2)) = 0 := nI_inj (b := 0) lt_oq (by decide) c_1163
    refine aw_aload_n C dL_law_1166 rfl ?_
    refine aw_iconst C (v := 0) (by decide) dL_law_1167 ?_
    refine aw_laldE C ho2 (by decide : (0 : Int32) = nI 0) ⟨by decide, by decide⟩ rfl dL_law_1168 ?_
    refine aw_iload C dL_law_1169 rfl ?_
    refine aw_i2l C dL_law_1171 ?_
    refine aw_lcmp C dL_law_1172 ?_
    refine aw_eqi (y := 0) (by rw [hf1 hc0, hr hc0]; exact lg_self _) ?_
    refine aw_if_eq C (tgt := 1178) dL_law_1173 (by decide) (fun _ => ?_) (fun c9 => absurd (by decide) c9)
    refine aw_goto C (tgt := 1778) dL_law_1178 (by decide) ?_
    refine aw_iinc C dL_law_1778 rfl (by decide) ?_
    refine aw_goto C (tgt := 28) dL_law_1781 (by decide) ?_
    refine aw_widen (n := 100 + 640 * (q + 1)) (k := 1000 + 4300 * (q + 1)) (by omega) (by omega) ?_
    refine aw_lv (lv' := [(0, .ref b0), (1, .ref (L 0 0)), (2, .ref (K 0 0)), (3, .ref o3), (4, .ref o4), (5, .int (nI (4 * (q + 1))))]) ⟨rfl, rfl, rfl, rfl, rfl, by rw [show 4 * (q + 1) = 4 * q + 4 by omega, ← nI_i4]; rfl, trivial⟩ ?_
    exact nx K (if oqC S (xs (4 * q + 1)) (xs (4 * q + 2)) = 0 then S else S) _ rfl hW2
set_option maxRecDepth 100000 in
set_option maxHeartbeats 4000000 in
theorem lc_17 {p : Program} {l : Launch} {e : Env} {s : State} {m : MethodId} {below : List Frame} {meth : Method} {c : Code} {Q : State → Prop} {D : va_G} {g : Nat → ClassId} {b0 Ln : Nat} {xs : Nat → Int32} {e0 o3 o4 q : Nat} {L K : Nat → Nat → Nat} {S : SS} {μ : mu} (hl9 : l.stackTraces = false) (H9 : LB s) (bl : BL s g e0) (C : Cx p s m #[Value.ref b0] meth c code RL 9 wsL_law ret s.heap.size D (tyL g)) (hE : EN s s) (hXs : va_X b0 Ln xs s s.heap) (hbl : b0 < s.heap.size) (hLn : Ln ≤ 2048) (hq : 4 * q + 4 ≤ Ln) (hW : LwI g e0 L K S o3 o4 q μ) (nx : ∀ (K' : Nat → Nat → Nat) (S' : SS) (μ' : mu), K' 0 0 = K 0 0 → LwI g e0 L K' S' o3 o4 (q + 1) μ' → Aw p l e room_1 s m #[Value.ref b0] below meth c Q s.heap.size D 9 μ' (100 + 640 * (q + 1)) (1000 + 4300 * (q + 1)) 28 [(0, .ref b0), (1, .ref (L 0 0)), (2, .ref (K 0 0)), (3, .ref o3), (4, .ref o4), (5, .int (nI (4 * (q + 1))))] []) : Aw p l e room_1 s m #[Value.ref b0] below meth c Q s.heap.size D 9 μ (100 + 640 * q) (1000 + 4300 * q) 1181 [(0, .ref b0), (1, .ref (L 0 0)), (2, .ref (K 0 0)), (3, .ref o3), (4, .ref o4), (5, .int (nI (4 * q)))] [] := by
  obtain ⟨hX0, ⟨X, hM0, hR0⟩, hI, hD, ⟨f3, h3⟩, ⟨f4, h4⟩, n3, n4, m3, m4, n34⟩ := id hW
  have hq2 : q < 2 ^ 30 := by omega
  refine aw_aload_n C dL_law_1181 rfl ?_
  refine aw_aload_n C dL_law_1182 rfl ?_
  refine aw_iload C dL_law_1183 rfl ?_
  refine aw_iconst C (v := 1) (by decide) dL_law_1185 ?_
  refine aw_iadd C dL_law_1186 ?_
  refine aw_eqi (y := nI (4 * q + 1)) (nI_1 _) ?_
  refine aw_sld C hXs hbl (k := 4 * q + 1) (by omega) hLn dL_law_1187 ?_
  refine aw_aload_n C dL_law_1188 rfl ?_
  refine aw_iload C dL_law_1189 rfl ?_
  refine aw_iconst C (v := 2) (by decide) dL_law_1191 ?_
  refine aw_iadd C dL_law_1192 ?_
  refine aw_eqi (y := nI (4 * q + 2)) (nI_a2 _) ?_
  refine aw_sld C hXs hbl (k := 4 * q + 2) (by omega) hLn dL_law_1193 ?_
  refine aw_aload_n C dL_law_1194 rfl ?_
  refine aw_iload C dL_law_1195 rfl ?_
  refine aw_iconst C (v := 3) (by decide) dL_law_1197 ?_
  refine aw_iadd C dL_law_1198 ?_
  refine aw_eqi (y := nI (4 * q + 3)) (nI_a3 _) ?_
  refine aw_sld C hXs hbl (k := 4 * q + 3) (by omega) hLn dL_law_1199 ?_
  refine aw_if_eq C (tgt := 1207) dL_law_1200 (by decide) (fun c_1200 => ?_) (fun c_1200 => ?_)
  · refine aw_iconst C (v := 0) (by decide) dL_law_1207 ?_
    refine aw_aload C dL_law_1208 rfl ?_
    refine aw_callSX (n := 5) C hE (k_L_hit (x := xs (4 * q + 1)) (y := xs (4 * q + 2)) (b := 0) hl9 H9 hX0 hI h4 n4) gL_law_L_hit rfl ⟨rfl, rfl⟩ (by decide +kernel) ⟨by decide, by decide⟩ rfl rfl (Nat.le_of_ble_eq_true rfl) dL_law_1210 ⟨by show _ ≤ 601024; omega, by show _ ≤ 7293034; omega⟩ (fun _ _ h => h) (fun v μ1 hp => ?_)
    obtain ⟨rfl, hX1, ⟨f1, ho1, hf1⟩, hF1⟩ := hp
    have hM1 := hW.moved hM0 hF1 (Or.inr rfl)
    have hf4 : ∃ f : Nat → UInt64, μ1 o4 = some (eD g 1 f) := ⟨f1, ho1⟩
    have hf3 : ∃ f : Nat → Int64, μ1 o3 = some (eJ g 1 f) := ⟨f3, hF1 _ _ h3 n3 n34⟩
    refine aw_st (st' := [.int (nI (hiC S (xs (4 * q + 1)) (xs (4 * q + 2))))]) rfl ?_
    refine aw_istore C dL_law_1213 (by decide) ?_
    refine aw_aload_n C dL_law_1215 rfl ?_
    refine aw_aload_n C dL_law_1216 rfl ?_
    refine aw_iload C dL_law_1217 rfl ?_
    refine aw_iconst C (v := 1) (by decide) dL_law_1219 ?_
    refine aw_iadd C dL_law_1220 ?_
    refine aw_eqi (y := nI (4 * q + 1)) (nI_1 _) ?_
    refine aw_sld C hXs hbl (k := 4 * q + 1) (by omega) hLn dL_law_1221 ?_
    refine aw_aload_n C dL_law_1222 rfl ?_
    refine aw_iload C dL_law_1223 rfl ?_
    refine aw_iconst C (v := 2) (by decide) dL_law_1225 ?_
    refine aw_iadd C dL_law_1226 ?_
    refine aw_eqi (y := nI (4 * q + 2)) (nI_a2 _) ?_
    refine aw_sld C hXs hbl (k := 4 * q + 2) (by omega) hLn dL_law_1227 ?_
    refine aw_aload_n C dL_law_1228 rfl ?_
    refine aw_iload C dL_law_1229 rfl ?_
    refine aw_iconst C (v := 3) (by decide) dL_law_1231 ?_
    refine aw_iadd C dL_law_1232 ?_
    refine aw_eqi (y := nI (4 * q + 3)) (nI_a3 _) ?_
    refine aw_sld C hXs hbl (k := 4 * q + 3) (by omega) hLn dL_law_1233 ?_
    refine aw_if_eq C (tgt := 1241) dL_law_1234 (by decide) (fun _ => ?_) (fun c9 => absurd c_1200 c9)
    refine aw_iconst C (v := 0) (by decide) dL_law_1241 ?_
    refine aw_callV (n := 3) C hE (ci := 9) (q := (RX7, TX7, 22)) (k_X7_hit (x := xs (4 * q + 1)) (y := xs (4 * q + 2)) (b9 := 0) H9.B hM1 hI hR0) gL_law_X7_hit rfl ⟨rfl, rfl⟩ (by decide +kernel) ⟨by decide, by decide⟩ rfl rfl hM1.mo rfl (Nat.le_of_ble_eq_true rfl) dL_law_1242 ⟨by show _ ≤ 601024; omega, by show _ ≤ 7293034; omega⟩ (fun v μ2 hp => ?_)
    obtain ⟨⟨r, rfl, hr⟩, ⟨X2, hM2, hR2, hth2⟩, hF2⟩ := hp
    have hW2 : LwI g e0 L K (if hiC S (xs (4 * q + 1)) (xs (4 * q + 2)) = 0 then S else S) o3 o4 (q + 1) μ2 := hW.step (ifn ⟨rfl, rfl⟩) (ifI (fun _ => hI) hI) hX1 hf3 hf4 hM2 (hR2.up (by omega)) hF2
    have ho2 := hF2 _ _ ho1 m4
    refine aw_st (st' := [.double r]) rfl ?_
    refine aw_dstore C dL_law_1245 (by decide) ?_
    refine aw_aload_n C dL_law_1247 rfl ?_
    refine aw_callV (n := 0) C hE (ci := 9) (q := (RX7, TX7, 22)) (k_X7_thrown H9.B hM2) gL_law_X7_thrown rfl ⟨rfl, rfl⟩ (by decide +kernel) ⟨by decide, by decide⟩ rfl rfl hM2.mo rfl (Nat.le_of_ble_eq_true rfl) dL_law_1248 ⟨by show _ ≤ 601024; omega, by show _ ≤ 7293034; omega⟩ (fun v μ3 hp => ?_)
    obtain ⟨rfl, hm9⟩ := hp
    replace hm9 := hm9.symm
    subst hm9
    refine aw_st (st' := [.int X2.th]) rfl ?_
    refine aw_eqi (y := nI (hiC S (xs (4 * q + 1)) (xs (4 * q + 2)))) hth2 ?_
    refine aw_iload C dL_law_1251 rfl ?_
    refine aw_icmp_eq C (tgt := 1258) dL_law_1253 (by decide) (fun _ => ?_) (fun c9 => absurd rfl c9)
    refine aw_iload C dL_law_1258 rfl ?_
    refine aw_if_ne C (tgt := 1295) dL_law_1260 (by decide) (fun c_1260 => ?_) (fun c_1260 => ?_)
    · refine aw_goto C (tgt := 1778) dL_law_1295 (by decide) ?_
      refine aw_iinc C dL_law_1778 rfl (by decide) ?_
      refine aw_goto C (tgt := 28) dL_law_1781 (by decide) ?_
      refine aw_widen (n := 100 + 640 * (q + 1)) (k := 1000 + 4300 * (q + 1)) (by omega) (by omega) ?_
      refine aw_lv (lv' := [(0, .ref b0), (1, .ref (L 0 0)), (2, .ref (K 0 0)), (3, .ref o3), (4, .ref o4), (5, .int (nI (4 * (q + 1))))]) ⟨rfl, rfl, rfl, rfl, rfl, by rw [show 4 * (q + 1) = 4 * q + 4 by omega, ← nI_i4]; rfl, trivial⟩ ?_
      exact nx K (if hiC S (xs (4 * q + 1)) (xs (4 * q + 2)) = 0 then S else S) _ rfl hW2
    · have hc0 : hiC S (xs (4 * q + 1)) (xs (4 * q + 2)) = 0 := nI_inj (b := 0) lt_hi (by decide) c_1260
      refine aw_aload C dL_law_1263 rfl ?_
      refine aw_iconst C (v := 0) (by decide) dL_law_1265 ?_
      refine aw_daldE C ho2 (by decide : (0 : Int32) = nI 0) ⟨by decide, by decide⟩ rfl dL_law_1266 ?_
      refine aw_dload C dL_law_1267 rfl ?_
      refine aw_dcmp C dL_law_1269 ?_
      refine aw_eqi (y := 0) (by rw [hf1 hc0, hr hc0]; exact (kv_eq0 (nn_hi hI _) (nn_hi hI _) .l).mpr rfl) ?_
      refine aw_if_eq C (tgt := 1295) dL_law_1270 (by decide) (fun _ => ?_) (fun c9 => absurd (by decide) c9)
      refine aw_goto C (tgt := 1778) dL_law_1295 (by decide) ?_
      refine aw_iinc C dL_law_1778 rfl (by decide) ?_
      refine aw_goto C (tgt := 28) dL_law_1781 (by decide) ?_
      refine aw_widen (n := 100 + 640 * (q + 1)) (k := 1000 + 4300 * (q + 1)) (by omega) (by omega) ?_
      refine aw_lv (lv' := [(0, .ref b0), (1, .ref (L 0 0)), (2, .ref (K 0 0)), (3, .ref o3), (4, .ref o4), (5, .int (nI (4 * (q + 1))))]) ⟨rfl, rfl, rfl, rfl, rfl, by rw [show 4 * (q + 1) = 4 * q + 4 by omega, ← nI_i4]; rfl, trivial⟩ ?_
      exact nx K (if hiC S (xs (4 * q + 1)) (xs (4 * q + 2)) = 0 then S else S) _ rfl hW2
  · refine aw_iconst C (v := 1) (by decide) dL_law_1203 ?_
    refine aw_goto C (tgt := 1208) dL_law_1204 (by decide) ?_
    refine aw_aload C dL_law_1208 rfl ?_
    refine aw_callSX (n := 5) C hE (k_L_hit (x := xs (4 * q + 1)) (y := xs (4 * q + 2)) (b := 1) hl9 H9 hX0 hI h4 n4) gL_law_L_hit rfl ⟨rfl, rfl⟩ (by decide +kernel) ⟨by decide, by decide⟩ rfl rfl (Nat.le_of_ble_eq_true rfl) dL_law_1210 ⟨by show _ ≤ 601024; omega, by show _ ≤ 7293034; omega⟩ (fun _ _ h => h) (fun v μ1 hp => ?_)
    obtain ⟨rfl, hX1, ⟨f1, ho1, hf1⟩, hF1⟩ := hp
    have hM1 := hW.moved hM0 hF1 (Or.inr rfl)
    have hf4 : ∃ f : Nat → UInt64, μ1 o4 = some (eD g 1 f) := ⟨f1, ho1⟩
    have hf3 : ∃ f : Nat → Int64, μ1 o3 = some (eJ g 1 f) := ⟨f3, hF1 _ _ h3 n3 n34⟩
    refine aw_st (st' := [.int (nI (hiC S (xs (4 * q + 1)) (xs (4 * q + 2))))]) rfl ?_
    refine aw_istore C dL_law_1213 (by decide) ?_
    refine aw_aload_n C dL_law_1215 rfl ?_
    refine aw_aload_n C dL_law_1216 rfl ?_
    refine aw_iload C dL_law_1217 rfl ?_
    refine aw_iconst C (v := 1) (by decide) dL_law_1219 ?_
    refine aw_iadd C dL_law_1220 ?_
    refine aw_eqi (y := nI (4 * q + 1)) (nI_1 _) ?_
    refine aw_sld C hXs hbl (k := 4 * q + 1) (by omega) hLn dL_law_1221 ?_
    refine aw_aload_n C dL_law_1222 rfl ?_
    refine aw_iload C dL_law_1223 rfl ?_
    refine aw_iconst C (v := 2) (by decide) dL_law_1225 ?_
    refine aw_iadd C dL_law_1226 ?_
    refine aw_eqi (y := nI (4 * q + 2)) (nI_a2 _) ?_
    refine aw_sld C hXs hbl (k := 4 * q + 2) (by omega) hLn dL_law_1227 ?_
    refine aw_aload_n C dL_law_1228 rfl ?_
    refine aw_iload C dL_law_1229 rfl ?_
    refine aw_iconst C (v := 3) (by decide) dL_law_1231 ?_
    refine aw_iadd C dL_law_1232 ?_
    refine aw_eqi (y := nI (4 * q + 3)) (nI_a3 _) ?_
    refine aw_sld C hXs hbl (k := 4 * q + 3) (by omega) hLn dL_law_1233 ?_
    refine aw_if_eq C (tgt := 1241) dL_law_1234 (by decide) (fun c9 => absurd c9 c_1200) (fun _ => ?_)
    refine aw_iconst C (v := 1) (by decide) dL_law_1237 ?_
    refine aw_goto C (tgt := 1242) dL_law_1238 (by decide) ?_
    refine aw_callV (n := 3) C hE (ci := 9) (q := (RX7, TX7, 22)) (k_X7_hit (x := xs (4 * q + 1)) (y := xs (4 * q + 2)) (b9 := 1) H9.B hM1 hI hR0) gL_law_X7_hit rfl ⟨rfl, rfl⟩ (by decide +kernel) ⟨by decide, by decide⟩ rfl rfl hM1.mo rfl (Nat.le_of_ble_eq_true rfl) dL_law_1242 ⟨by show _ ≤ 601024; omega, by show _ ≤ 7293034; omega⟩ (fun v μ2 hp => ?_)
    obtain ⟨⟨r, rfl, hr⟩, ⟨X2, hM2, hR2, hth2⟩, hF2⟩ := hp
    have hW2 : LwI g e0 L K (if hiC S (xs (4 * q + 1)) (xs (4 * q + 2)) = 0 then S else S) o3 o4 (q + 1) μ2 := hW.step (ifn ⟨rfl, rfl⟩) (ifI (fun _ => hI) hI) hX1 hf3 hf4 hM2 (hR2.up (by omega)) hF2
    have ho2 := hF2 _ _ ho1 m4
    refine aw_st (st' := [.double r]) rfl ?_
    refine aw_dstore C dL_law_1245 (by decide) ?_
    refine aw_aload_n C dL_law_1247 rfl ?_
    refine aw_callV (n := 0) C hE (ci := 9) (q := (RX7, TX7, 22)) (k_X7_thrown H9.B hM2) gL_law_X7_thrown rfl ⟨rfl, rfl⟩ (by decide +kernel) ⟨by decide, by decide⟩ rfl rfl hM2.mo rfl (Nat.le_of_ble_eq_true rfl) dL_law_1248 ⟨by show _ ≤ 601024; omega, by show _ ≤ 7293034; omega⟩ (fun v μ3 hp => ?_)
    obtain ⟨rfl, hm9⟩ := hp
    replace hm9 := hm9.symm
    subst hm9
    refine aw_st (st' := [.int X2.th]) rfl ?_
    refine aw_eqi (y := nI (hiC S (xs (4 * q + 1)) (xs (4 * q + 2)))) hth2 ?_
    refine aw_iload C dL_law_1251 rfl ?_
    refine aw_icmp_eq C (tgt := 1258) dL_law_1253 (by decide) (fun _ => ?_) (fun c9 => absurd rfl c9)
    refine aw_iload C dL_law_1258 rfl ?_
    refine aw_if_ne C (tgt := 1295) dL_law_1260 (by decide) (fun c_1260 => ?_) (fun c_1260 => ?_)
    · refine aw_goto C (tgt := 1778) dL_law_1295 (by decide) ?_
      refine aw_iinc C dL_law_1778 rfl (by decide) ?_
      refine aw_goto C (tgt := 28) dL_law_1781 (by decide) ?_
      refine aw_widen (n := 100 + 640 * (q + 1)) (k := 1000 + 4300 * (q + 1)) (by omega) (by omega) ?_
      refine aw_lv (lv' := [(0, .ref b0), (1, .ref (L 0 0)), (2, .ref (K 0 0)), (3, .ref o3), (4, .ref o4), (5, .int (nI (4 * (q + 1))))]) ⟨rfl, rfl, rfl, rfl, rfl, by rw [show 4 * (q + 1) = 4 * q + 4 by omega, ← nI_i4]; rfl, trivial⟩ ?_
      exact nx K (if hiC S (xs (4 * q + 1)) (xs (4 * q + 2)) = 0 then S else S) _ rfl hW2
    · have hc0 : hiC S (xs (4 * q + 1)) (xs (4 * q + 2)) = 0 := nI_inj (b := 0) lt_hi (by decide) c_1260
      refine aw_aload C dL_law_1263 rfl ?_
      refine aw_iconst C (v := 0) (by decide) dL_law_1265 ?_
      refine aw_daldE C ho2 (by decide : (0 : Int32) = nI 0) ⟨by decide, by decide⟩ rfl dL_law_1266 ?_
      refine aw_dload C dL_law_1267 rfl ?_
      refine aw_dcmp C dL_law_1269 ?_
      refine aw_eqi (y := 0) (by rw [hf1 hc0, hr hc0]; exact (kv_eq0 (nn_hi hI _) (nn_hi hI _) .l).mpr rfl) ?_
      refine aw_if_eq C (tgt := 1295) dL_law_1270 (by decide) (fun _ => ?_) (fun c9 => absurd (by decide) c9)
      refine aw_goto C (tgt := 1778) dL_law_1295 (by decide) ?_
      refine aw_iinc C dL_law_1778 rfl (by decide) ?_
      refine aw_goto C (tgt := 28) dL_law_1781 (by decide) ?_
      refine aw_widen (n := 100 + 640 * (q + 1)) (k := 1000 + 4300 * (q + 1)) (by omega) (by omega) ?_
      refine aw_lv (lv' := [(0, .ref b0), (1, .ref (L 0 0)), (2, .ref (K 0 0)), (3, .ref o3), (4, .ref o4), (5, .int (nI (4 * (q + 1))))]) ⟨rfl, rfl, rfl, rfl, rfl, by rw [show 4 * (q + 1) = 4 * q + 4 by omega, ← nI_i4]; rfl, trivial⟩ ?_
      exact nx K (if hiC S (xs (4 * q + 1)) (xs (4 * q + 2)) = 0 then S else S) _ rfl hW2
set_option maxRecDepth 100000 in
set_option maxHeartbeats 4000000 in
theorem lc_18 {p : Program} {l : Launch} {e : Env} {s : State} {m : MethodId} {below : List Frame} {meth : Method} {c : Code} {Q : State → Prop} {D : va_G} {g : Nat → ClassId} {b0 Ln : Nat} {xs : Nat → Int32} {e0 o3 o4 q : Nat} {L K : Nat → Nat → Nat} {S : SS} {μ : mu} (hl9 : l.stackTraces = false) (H9 : LB s) (bl : BL s g e0) (C : Cx p s m #[Value.ref b0] meth c code RL 9 wsL_law ret s.heap.size D (tyL g)) (hE : EN s s) (hXs : va_X b0 Ln xs s s.heap) (hbl : b0 < s.heap.size) (hLn : Ln ≤ 2048) (hq : 4 * q + 4 ≤ Ln) (hW : LwI g e0 L K S o3 o4 q μ) (nx : ∀ (K' : Nat → Nat → Nat) (S' : SS) (μ' : mu), K' 0 0 = K 0 0 → LwI g e0 L K' S' o3 o4 (q + 1) μ' → Aw p l e room_1 s m #[Value.ref b0] below meth c Q s.heap.size D 9 μ' (100 + 640 * (q + 1)) (1000 + 4300 * (q + 1)) 28 [(0, .ref b0), (1, .ref (L 0 0)), (2, .ref (K 0 0)), (3, .ref o3), (4, .ref o4), (5, .int (nI (4 * (q + 1))))] []) : Aw p l e room_1 s m #[Value.ref b0] below meth c Q s.heap.size D 9 μ (100 + 640 * q) (1000 + 4300 * q) 1298 [(0, .ref b0), (1, .ref (L 0 0)), (2, .ref (K 0 0)), (3, .ref o3), (4, .ref o4), (5, .int (nI (4 * q)))] [] := by
  obtain ⟨hX0, ⟨X, hM0, hR0⟩, hI, hD, ⟨f3, h3⟩, ⟨f4, h4⟩, n3, n4, m3, m4, n34⟩ := id hW
  have hq2 : q < 2 ^ 30 := by omega
  refine aw_aload_n C dL_law_1298 rfl ?_
  refine aw_aload_n C dL_law_1299 rfl ?_
  refine aw_iload C dL_law_1300 rfl ?_
  refine aw_iconst C (v := 1) (by decide) dL_law_1302 ?_
  refine aw_iadd C dL_law_1303 ?_
  refine aw_eqi (y := nI (4 * q + 1)) (nI_1 _) ?_
  refine aw_sld C hXs hbl (k := 4 * q + 1) (by omega) hLn dL_law_1304 ?_
  refine aw_aload_n C dL_law_1305 rfl ?_
  refine aw_callSX (n := 3) C hE (k_L_many (w := xs (4 * q + 1)) hl9 H9 hX0 hI h3 n3) gL_law_L_many rfl ⟨rfl, rfl⟩ (by decide +kernel) ⟨by decide, by decide⟩ rfl rfl (Nat.le_of_ble_eq_true rfl) dL_law_1306 ⟨by show _ ≤ 601024; omega, by show _ ≤ 7293034; omega⟩ (fun _ _ h => h) (fun v μ1 hp => ?_)
  obtain ⟨rfl, hX1, ⟨f1, ho1, hf1⟩, hF1⟩ := hp
  have hM1 := hW.moved hM0 hF1 (Or.inl rfl)
  have hf3 : ∃ f : Nat → Int64, μ1 o3 = some (eJ g 1 f) := ⟨f1, ho1⟩
  have hf4 : ∃ f : Nat → UInt64, μ1 o4 = some (eD g 1 f) := ⟨f4, hF1 _ _ h4 n4 n34.symm⟩
  refine aw_st (st' := [.int (nI (mnC (xs (4 * q + 1))))]) rfl ?_
  refine aw_istore C dL_law_1309 (by decide) ?_
  refine aw_aload_n C dL_law_1311 rfl ?_
  refine aw_aload_n C dL_law_1312 rfl ?_
  refine aw_iload C dL_law_1313 rfl ?_
  refine aw_iconst C (v := 1) (by decide) dL_law_1315 ?_
  refine aw_iadd C dL_law_1316 ?_
  refine aw_eqi (y := nI (4 * q + 1)) (nI_1 _) ?_
  refine aw_sld C hXs hbl (k := 4 * q + 1) (by omega) hLn dL_law_1317 ?_
  refine aw_callV (n := 1) C hE (ci := 9) (q := (RX7, TX7, 22)) (k_X7_many (w := xs (4 * q + 1)) H9.B hM1 hI hR0) gL_law_X7_many rfl ⟨rfl, rfl⟩ (by decide +kernel) ⟨by decide, by decide⟩ rfl rfl hM1.mo rfl (Nat.le_of_ble_eq_true rfl) dL_law_1318 ⟨by show _ ≤ 601024; omega, by show _ ≤ 7293034; omega⟩ (fun v μ2 hp => ?_)
  obtain ⟨⟨r, rfl, hr⟩, ⟨X2, hM2, hR2, hth2⟩, hF2⟩ := hp
  have hW2 : LwI g e0 L K (if mnC (xs (4 * q + 1)) = 0 then S else S) o3 o4 (q + 1) μ2 := hW.step (ifn ⟨rfl, rfl⟩) (ifI (fun _ => hI) hI) hX1 hf3 hf4 hM2 (hR2.up (by omega)) hF2
  have ho2 := hF2 _ _ ho1 m3
  refine aw_st (st' := [.int r]) rfl ?_
  refine aw_istore C dL_law_1321 (by decide) ?_
  refine aw_aload_n C dL_law_1323 rfl ?_
  refine aw_callV (n := 0) C hE (ci := 9) (q := (RX7, TX7, 22)) (k_X7_thrown H9.B hM2) gL_law_X7_thrown rfl ⟨rfl, rfl⟩ (by decide +kernel) ⟨by decide, by decide⟩ rfl rfl hM2.mo rfl (Nat.le_of_ble_eq_true rfl) dL_law_1324 ⟨by show _ ≤ 601024; omega, by show _ ≤ 7293034; omega⟩ (fun v μ3 hp => ?_)
  obtain ⟨rfl, hm9⟩ := hp
  replace hm9 := hm9.symm
  subst hm9
  refine aw_st (st' := [.int X2.th]) rfl ?_
  refine aw_eqi (y := nI (mnC (xs (4 * q + 1)))) hth2 ?_
  refine aw_iload C dL_law_1327 rfl ?_
  refine aw_icmp_eq C (tgt := 1334) dL_law_1329 (by decide) (fun _ => ?_) (fun c9 => absurd rfl c9)
  refine aw_iload C dL_law_1334 rfl ?_
  refine aw_if_ne C (tgt := 1351) dL_law_1336 (by decide) (fun c_1336 => ?_) (fun c_1336 => ?_)
  · refine aw_goto C (tgt := 1778) dL_law_1351 (by decide) ?_
    refine aw_iinc C dL_law_1778 rfl (by decide) ?_
    refine aw_goto C (tgt := 28) dL_law_1781 (by decide) ?_
    refine aw_widen (n := 100 + 640 * (q + 1)) (k := 1000 + 4300 * (q + 1)) (by omega) (by omega) ?_
    refine aw_lv (lv' := [(0, .ref b0), (1, .ref (L 0 0)), (2, .ref (K 0 0)), (3, .ref o3), (4, .ref o4), (5, .int (nI (4 * (q + 1))))]) ⟨rfl, rfl, rfl, rfl, rfl, by rw [show 4 * (q + 1) = 4 * q + 4 by omega, ← nI_i4]; rfl, trivial⟩ ?_
    exact nx K (if mnC (xs (4 * q + 1)) = 0 then S else S) _ rfl hW2
  · have hc0 : mnC (xs (4 * q + 1)) = 0 := nI_inj (b := 0) lt_mn (by decide) c_1336
    refine aw_aload_n C dL_law_1339 rfl ?_
    refine aw_iconst C (v := 0) (by decide) dL_law_1340 ?_
    refine aw_laldE C ho2 (by decide : (0 : Int32) = nI 0) ⟨by decide, by decide⟩ rfl dL_law_1341 ?_
    refine aw_iload C dL_law_1342 rfl ?_
    refine aw_i2l C dL_law_1344 ?_
    refine aw_lcmp C dL_law_1345 ?_
    refine aw_eqi (y := 0) (by rw [hf1 hc0, hr hc0]; exact lg_self _) ?_
    refine aw_if_eq C (tgt := 1351) dL_law_1346 (by decide) (fun _ => ?_) (fun c9 => absurd (by decide) c9)
    refine aw_goto C (tgt := 1778) dL_law_1351 (by decide) ?_
    refine aw_iinc C dL_law_1778 rfl (by decide) ?_
    refine aw_goto C (tgt := 28) dL_law_1781 (by decide) ?_
    refine aw_widen (n := 100 + 640 * (q + 1)) (k := 1000 + 4300 * (q + 1)) (by omega) (by omega) ?_
    refine aw_lv (lv' := [(0, .ref b0), (1, .ref (L 0 0)), (2, .ref (K 0 0)), (3, .ref o3), (4, .ref o4), (5, .int (nI (4 * (q + 1))))]) ⟨rfl, rfl, rfl, rfl, rfl, by rw [show 4 * (q + 1) = 4 * q + 4 by omega, ← nI_i4]; rfl, trivial⟩ ?_
    exact nx K (if mnC (xs (4 * q + 1)) = 0 then S else S) _ rfl hW2
set_option maxRecDepth 100000 in
set_option maxHeartbeats 4000000 in
theorem lc_19 {p : Program} {l : Launch} {e : Env} {s : State} {m : MethodId} {below : List Frame} {meth : Method} {c : Code} {Q : State → Prop} {D : va_G} {g : Nat → ClassId} {b0 Ln : Nat} {xs : Nat → Int32} {e0 o3 o4 q : Nat} {L K : Nat → Nat → Nat} {S : SS} {μ : mu} (hl9 : l.stackTraces = false) (H9 : LB s) (bl : BL s g e0) (C : Cx p s m #[Value.ref b0] meth c code RL 9 wsL_law ret s.heap.size D (tyL g)) (hE : EN s s) (hXs : va_X b0 Ln xs s s.heap) (hbl : b0 < s.heap.size) (hLn : Ln ≤ 2048) (hq : 4 * q + 4 ≤ Ln) (hW : LwI g e0 L K S o3 o4 q μ) (nx : ∀ (K' : Nat → Nat → Nat) (S' : SS) (μ' : mu), K' 0 0 = K 0 0 → LwI g e0 L K' S' o3 o4 (q + 1) μ' → Aw p l e room_1 s m #[Value.ref b0] below meth c Q s.heap.size D 9 μ' (100 + 640 * (q + 1)) (1000 + 4300 * (q + 1)) 28 [(0, .ref b0), (1, .ref (L 0 0)), (2, .ref (K 0 0)), (3, .ref o3), (4, .ref o4), (5, .int (nI (4 * (q + 1))))] []) : Aw p l e room_1 s m #[Value.ref b0] below meth c Q s.heap.size D 9 μ (100 + 640 * q) (1000 + 4300 * q) 1354 [(0, .ref b0), (1, .ref (L 0 0)), (2, .ref (K 0 0)), (3, .ref o3), (4, .ref o4), (5, .int (nI (4 * q)))] [] := by
  obtain ⟨hX0, ⟨X, hM0, hR0⟩, hI, hD, ⟨f3, h3⟩, ⟨f4, h4⟩, n3, n4, m3, m4, n34⟩ := id hW
  have hq2 : q < 2 ^ 30 := by omega
  refine aw_aload_n C dL_law_1354 rfl ?_
  refine aw_aload_n C dL_law_1355 rfl ?_
  refine aw_iload C dL_law_1356 rfl ?_
  refine aw_iconst C (v := 1) (by decide) dL_law_1358 ?_
  refine aw_iadd C dL_law_1359 ?_
  refine aw_eqi (y := nI (4 * q + 1)) (nI_1 _) ?_
  refine aw_sld C hXs hbl (k := 4 * q + 1) (by omega) hLn dL_law_1360 ?_
  refine aw_aload_n C dL_law_1361 rfl ?_
  refine aw_callSX (n := 3) C hE (k_L_ofMatch (w := xs (4 * q + 1)) hl9 H9 hX0 hI h3 n3) gL_law_L_ofMatch rfl ⟨rfl, rfl⟩ (by decide +kernel) ⟨by decide, by decide⟩ rfl rfl (Nat.le_of_ble_eq_true rfl) dL_law_1362 ⟨by show _ ≤ 601024; omega, by show _ ≤ 7293034; omega⟩ (fun _ _ h => h) (fun v μ1 hp => ?_)
  obtain ⟨rfl, hX1, ⟨f1, ho1, hf1⟩, hF1⟩ := hp
  have hM1 := hW.moved hM0 hF1 (Or.inl rfl)
  have hf3 : ∃ f : Nat → Int64, μ1 o3 = some (eJ g 1 f) := ⟨f1, ho1⟩
  have hf4 : ∃ f : Nat → UInt64, μ1 o4 = some (eD g 1 f) := ⟨f4, hF1 _ _ h4 n4 n34.symm⟩
  refine aw_st (st' := [.int (nI (omC (xs (4 * q + 1))))]) rfl ?_
  refine aw_istore C dL_law_1365 (by decide) ?_
  refine aw_aload_n C dL_law_1367 rfl ?_
  refine aw_aload_n C dL_law_1368 rfl ?_
  refine aw_iload C dL_law_1369 rfl ?_
  refine aw_iconst C (v := 1) (by decide) dL_law_1371 ?_
  refine aw_iadd C dL_law_1372 ?_
  refine aw_eqi (y := nI (4 * q + 1)) (nI_1 _) ?_
  refine aw_sld C hXs hbl (k := 4 * q + 1) (by omega) hLn dL_law_1373 ?_
  refine aw_callV (n := 1) C hE (ci := 9) (q := (RX7, TX7, 22)) (k_X7_ofMatch (w := xs (4 * q + 1)) H9.B hM1 hI hR0 hq2) gL_law_X7_ofMatch rfl ⟨rfl, rfl⟩ (by decide +kernel) ⟨by decide, by decide⟩ rfl rfl hM1.mo rfl (Nat.le_of_ble_eq_true rfl) dL_law_1374 ⟨by show _ ≤ 601024; omega, by show _ ≤ 7293034; omega⟩ (fun v μ2 hp => ?_)
  obtain ⟨⟨r, rfl, hr⟩, ⟨X2, hM2, hR2, hth2⟩, hF2⟩ := hp
  have hW2 : LwI g e0 L K (if omC (xs (4 * q + 1)) = 0 then S else S) o3 o4 (q + 1) μ2 := hW.step (ifn ⟨rfl, rfl⟩) (ifI (fun _ => hI) hI) hX1 hf3 hf4 hM2 (hR2.up (by omega)) hF2
  have ho2 := hF2 _ _ ho1 m3
  refine aw_st (st' := [.int r]) rfl ?_
  refine aw_istore C dL_law_1377 (by decide) ?_
  refine aw_aload_n C dL_law_1379 rfl ?_
  refine aw_callV (n := 0) C hE (ci := 9) (q := (RX7, TX7, 22)) (k_X7_thrown H9.B hM2) gL_law_X7_thrown rfl ⟨rfl, rfl⟩ (by decide +kernel) ⟨by decide, by decide⟩ rfl rfl hM2.mo rfl (Nat.le_of_ble_eq_true rfl) dL_law_1380 ⟨by show _ ≤ 601024; omega, by show _ ≤ 7293034; omega⟩ (fun v μ3 hp => ?_)
  obtain ⟨rfl, hm9⟩ := hp
  replace hm9 := hm9.symm
  subst hm9
  refine aw_st (st' := [.int X2.th]) rfl ?_
  refine aw_eqi (y := nI (omC (xs (4 * q + 1)))) hth2 ?_
  refine aw_iload C dL_law_1383 rfl ?_
  refine aw_icmp_eq C (tgt := 1390) dL_law_1385 (by decide) (fun _ => ?_) (fun c9 => absurd rfl c9)
  refine aw_iload C dL_law_1390 rfl ?_
  refine aw_if_ne C (tgt := 1407) dL_law_1392 (by decide) (fun c_1392 => ?_) (fun c_1392 => ?_)
  · refine aw_goto C (tgt := 1778) dL_law_1407 (by decide) ?_
    refine aw_iinc C dL_law_1778 rfl (by decide) ?_
    refine aw_goto C (tgt := 28) dL_law_1781 (by decide) ?_
    refine aw_widen (n := 100 + 640 * (q + 1)) (k := 1000 + 4300 * (q + 1)) (by omega) (by omega) ?_
    refine aw_lv (lv' := [(0, .ref b0), (1, .ref (L 0 0)), (2, .ref (K 0 0)), (3, .ref o3), (4, .ref o4), (5, .int (nI (4 * (q + 1))))]) ⟨rfl, rfl, rfl, rfl, rfl, by rw [show 4 * (q + 1) = 4 * q + 4 by omega, ← nI_i4]; rfl, trivial⟩ ?_
    exact nx K (if omC (xs (4 * q + 1)) = 0 then S else S) _ rfl hW2
  · have hc0 : omC (xs (4 * q + 1)) = 0 := nI_inj (b := 0) lt_om (by decide) c_1392
    refine aw_aload_n C dL_law_1395 rfl ?_
    refine aw_iconst C (v := 0) (by decide) dL_law_1396 ?_
    refine aw_laldE C ho2 (by decide : (0 : Int32) = nI 0) ⟨by decide, by decide⟩ rfl dL_law_1397 ?_
    refine aw_iload C dL_law_1398 rfl ?_
    refine aw_i2l C dL_law_1400 ?_
    refine aw_lcmp C dL_law_1401 ?_
    refine aw_eqi (y := 0) (by rw [hf1 hc0, hr hc0]; exact lg_self _) ?_
    refine aw_if_eq C (tgt := 1407) dL_law_1402 (by decide) (fun _ => ?_) (fun c9 => absurd (by decide) c9)
    refine aw_goto C (tgt := 1778) dL_law_1407 (by decide) ?_
    refine aw_iinc C dL_law_1778 rfl (by decide) ?_
    refine aw_goto C (tgt := 28) dL_law_1781 (by decide) ?_
    refine aw_widen (n := 100 + 640 * (q + 1)) (k := 1000 + 4300 * (q + 1)) (by omega) (by omega) ?_
    refine aw_lv (lv' := [(0, .ref b0), (1, .ref (L 0 0)), (2, .ref (K 0 0)), (3, .ref o3), (4, .ref o4), (5, .int (nI (4 * (q + 1))))]) ⟨rfl, rfl, rfl, rfl, rfl, by rw [show 4 * (q + 1) = 4 * q + 4 by omega, ← nI_i4]; rfl, trivial⟩ ?_
    exact nx K (if omC (xs (4 * q + 1)) = 0 then S else S) _ rfl hW2
set_option maxRecDepth 100000 in
set_option maxHeartbeats 4000000 in
theorem lc_20 {p : Program} {l : Launch} {e : Env} {s : State} {m : MethodId} {below : List Frame} {meth : Method} {c : Code} {Q : State → Prop} {D : va_G} {g : Nat → ClassId} {b0 Ln : Nat} {xs : Nat → Int32} {e0 o3 o4 q : Nat} {L K : Nat → Nat → Nat} {S : SS} {μ : mu} (hl9 : l.stackTraces = false) (H9 : LB s) (bl : BL s g e0) (C : Cx p s m #[Value.ref b0] meth c code RL 9 wsL_law ret s.heap.size D (tyL g)) (hE : EN s s) (hXs : va_X b0 Ln xs s s.heap) (hbl : b0 < s.heap.size) (hLn : Ln ≤ 2048) (hq : 4 * q + 4 ≤ Ln) (hW : LwI g e0 L K S o3 o4 q μ) (nx : ∀ (K' : Nat → Nat → Nat) (S' : SS) (μ' : mu), K' 0 0 = K 0 0 → LwI g e0 L K' S' o3 o4 (q + 1) μ' → Aw p l e room_1 s m #[Value.ref b0] below meth c Q s.heap.size D 9 μ' (100 + 640 * (q + 1)) (1000 + 4300 * (q + 1)) 28 [(0, .ref b0), (1, .ref (L 0 0)), (2, .ref (K 0 0)), (3, .ref o3), (4, .ref o4), (5, .int (nI (4 * (q + 1))))] []) : Aw p l e room_1 s m #[Value.ref b0] below meth c Q s.heap.size D 9 μ (100 + 640 * q) (1000 + 4300 * q) 1410 [(0, .ref b0), (1, .ref (L 0 0)), (2, .ref (K 0 0)), (3, .ref o3), (4, .ref o4), (5, .int (nI (4 * q)))] [] := by
  obtain ⟨hX0, ⟨X, hM0, hR0⟩, hI, hD, ⟨f3, h3⟩, ⟨f4, h4⟩, n3, n4, m3, m4, n34⟩ := id hW
  have hq2 : q < 2 ^ 30 := by omega
  refine aw_aload_n C dL_law_1410 rfl ?_
  obtain ⟨fh, fv, hRC⟩ := id hX0
  refine aw_callV0 (n := 0) C hE (ci := 6) (q := (RX4, TX4, 16)) (k_X4_winner  hl9 H9.B hX0 hI) gL_law_X4_winner rfl ⟨rfl, rfl⟩ (by decide +kernel) ⟨by decide, by decide⟩ rfl rfl hRC.mn rfl (Nat.le_of_ble_eq_true rfl) dL_law_1411 ⟨by show _ ≤ 601024; omega, by show _ ≤ 7293034; omega⟩ (fun _ _ h => px9_0 h.1) (fun v μ1 hp => ?_)
  obtain ⟨-, rfl, hX1, hF1⟩ := hp
  have hM1 := hW.moved hM0 (FrC.O (o := o3) hF1) (Or.inl rfl)
  have hf3 : ∃ f : Nat → Int64, μ1 o3 = some (eJ g 1 f) := ⟨f3, hF1 _ _ h3 n3⟩
  have hf4 : ∃ f : Nat → UInt64, μ1 o4 = some (eD g 1 f) := ⟨f4, hF1 _ _ h4 n4⟩
  refine aw_st (st' := [.int (S.c 14)]) rfl ?_
  refine aw_aload_n C dL_law_1414 rfl ?_
  refine aw_callV (n := 0) C hE (ci := 9) (q := (RX7, TX7, 22)) (k_X7_winner  H9.B hM1 hI hR0) gL_law_X7_winner rfl ⟨rfl, rfl⟩ (by decide +kernel) ⟨by decide, by decide⟩ rfl rfl hM1.mo rfl (Nat.le_of_ble_eq_true rfl) dL_law_1415 ⟨by show _ ≤ 601024; omega, by show _ ≤ 7293034; omega⟩ (fun v μ2 hp => ?_)
  obtain ⟨⟨r, rfl, hr⟩, ⟨X2, hM2, hR2, hth2⟩, hF2⟩ := hp
  have hW2 : LwI g e0 L K (if (0 : Nat) = 0 then S else S) o3 o4 (q + 1) μ2 := hW.step (ifn ⟨rfl, rfl⟩) (ifI (fun _ => hI) hI) hX1 hf3 hf4 hM2 (hR2.up (by omega)) hF2
  replace hr := hr rfl
  subst hr
  refine aw_st (st' := [.int (S.c 14), .int (S.c 14)]) rfl ?_
  refine aw_icmp_eq C (tgt := 1778) dL_law_1418 (by decide) (fun _ => ?_) (fun c9 => absurd rfl c9)
  refine aw_iinc C dL_law_1778 rfl (by decide) ?_
  refine aw_goto C (tgt := 28) dL_law_1781 (by decide) ?_
  refine aw_widen (n := 100 + 640 * (q + 1)) (k := 1000 + 4300 * (q + 1)) (by omega) (by omega) ?_
  refine aw_lv (lv' := [(0, .ref b0), (1, .ref (L 0 0)), (2, .ref (K 0 0)), (3, .ref o3), (4, .ref o4), (5, .int (nI (4 * (q + 1))))]) ⟨rfl, rfl, rfl, rfl, rfl, by rw [show 4 * (q + 1) = 4 * q + 4 by omega, ← nI_i4]; rfl, trivial⟩ ?_
  exact nx K (if (0 : Nat) = 0 then S else S) _ rfl hW2
