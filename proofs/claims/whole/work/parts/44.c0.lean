/-! ===== the law: a call of the script ===== -/
set_option maxRecDepth 100000 in
set_option maxHeartbeats 4000000 in
theorem lc_0 {p : Program} {l : Launch} {e : Env} {s : State} {m : MethodId} {below : List Frame} {meth : Method} {c : Code} {Q : State → Prop} {D : va_G} {g : Nat → ClassId} {b0 Ln : Nat} {xs : Nat → Int32} {e0 o3 o4 q : Nat} {L K : Nat → Nat → Nat} {S : SS} {μ : mu} (hl9 : l.stackTraces = false) (H9 : LB s) (bl : BL s g e0) (C : Cx p s m #[Value.ref b0] meth c code RL 9 wsL_law ret s.heap.size D (tyL g)) (hE : EN s s) (hXs : va_X b0 Ln xs s s.heap) (hbl : b0 < s.heap.size) (hLn : Ln ≤ 2048) (hq : 4 * q + 4 ≤ Ln) (hW : LwI g e0 L K S o3 o4 q μ) (nx : ∀ (K' : Nat → Nat → Nat) (S' : SS) (μ' : mu), K' 0 0 = K 0 0 → LwI g e0 L K' S' o3 o4 (q + 1) μ' → Aw p l e room_1 s m #[Value.ref b0] below meth c Q s.heap.size D 9 μ' (100 + 640 * (q + 1)) (1000 + 4300 * (q + 1)) 28 [(0, .ref b0), (1, .ref (L 0 0)), (2, .ref (K 0 0)), (3, .ref o3), (4, .ref o4), (5, .int (nI (4 * (q + 1))))] []) : Aw p l e room_1 s m #[Value.ref b0] below meth c Q s.heap.size D 9 μ (100 + 640 * q) (1000 + 4300 * q) 168 [(0, .ref b0), (1, .ref (L 0 0)), (2, .ref (K 0 0)), (3, .ref o3), (4, .ref o4), (5, .int (nI (4 * q)))] [] := by
  obtain ⟨hX0, ⟨X, hM0, hR0⟩, hI, hD, ⟨f3, h3⟩, ⟨f4, h4⟩, n3, n4, m3, m4, n34⟩ := id hW
  have hq2 : q < 2 ^ 30 := by omega
  refine aw_aload_n C dL_law_168 rfl ?_
  refine aw_aload_n C dL_law_169 rfl ?_
  refine aw_iload C dL_law_170 rfl ?_
  refine aw_iconst C (v := 1) (by decide) dL_law_172 ?_
  refine aw_iadd C dL_law_173 ?_
  refine aw_eqi (y := nI (4 * q + 1)) (nI_1 _) ?_
  refine aw_sld C hXs hbl (k := 4 * q + 1) (by omega) hLn dL_law_174 ?_
  refine aw_aload_n C dL_law_175 rfl ?_
  refine aw_iload C dL_law_176 rfl ?_
  refine aw_iconst C (v := 2) (by decide) dL_law_178 ?_
  refine aw_iadd C dL_law_179 ?_
  refine aw_eqi (y := nI (4 * q + 2)) (nI_a2 _) ?_
  refine aw_sld C hXs hbl (k := 4 * q + 2) (by omega) hLn dL_law_180 ?_
  refine aw_aload_n C dL_law_181 rfl ?_
  refine aw_callSX (n := 4) C hE (k_L_archer (x := xs (4 * q + 1)) (y := xs (4 * q + 2)) hl9 H9 hX0 hI h3 n3) gL_law_L_archer rfl ⟨rfl, rfl⟩ (by decide +kernel) ⟨by decide, by decide⟩ rfl rfl (Nat.le_of_ble_eq_true rfl) dL_law_182 ⟨by show _ ≤ 601024; omega, by show _ ≤ 7293034; omega⟩ (fun _ _ h => h) (fun v μ1 hp => ?_)
  obtain ⟨rfl, hX1, ⟨f1, ho1, hf1⟩, hF1⟩ := hp
  have hM1 := hW.moved hM0 hF1 (Or.inl rfl)
  have hf3 : ∃ f : Nat → Int64, μ1 o3 = some (eJ g 1 f) := ⟨f1, ho1⟩
  have hf4 : ∃ f : Nat → UInt64, μ1 o4 = some (eD g 1 f) := ⟨f4, hF1 _ _ h4 n4 n34.symm⟩
  refine aw_st (st' := [.int (nI (arC S (xs (4 * q + 1)) (xs (4 * q + 2))))]) rfl ?_
  refine aw_istore C dL_law_185 (by decide) ?_
  refine aw_aload_n C dL_law_187 rfl ?_
  refine aw_aload_n C dL_law_188 rfl ?_
  refine aw_iload C dL_law_189 rfl ?_
  refine aw_iconst C (v := 1) (by decide) dL_law_191 ?_
  refine aw_iadd C dL_law_192 ?_
  refine aw_eqi (y := nI (4 * q + 1)) (nI_1 _) ?_
  refine aw_sld C hXs hbl (k := 4 * q + 1) (by omega) hLn dL_law_193 ?_
  refine aw_aload_n C dL_law_194 rfl ?_
  refine aw_iload C dL_law_195 rfl ?_
  refine aw_iconst C (v := 2) (by decide) dL_law_197 ?_
  refine aw_iadd C dL_law_198 ?_
  refine aw_eqi (y := nI (4 * q + 2)) (nI_a2 _) ?_
  refine aw_sld C hXs hbl (k := 4 * q + 2) (by omega) hLn dL_law_199 ?_
  refine aw_callV (n := 2) C hE (ci := 9) (q := (RX7, TX7, 22)) (k_X7_archer (x := xs (4 * q + 1)) (y := xs (4 * q + 2)) H9.B hM1 hI hR0 bl) gL_law_X7_archer rfl ⟨rfl, rfl⟩ (by decide +kernel) ⟨by decide, by decide⟩ rfl rfl hM1.mo rfl (Nat.le_of_ble_eq_true rfl) dL_law_200 ⟨by show _ ≤ 601024; omega, by show _ ≤ 7293034; omega⟩ (fun v μ2 hp => ?_)
  obtain ⟨⟨r, rfl, hr⟩, K2, hK2, ⟨X2, hM2, hR2, hth2⟩, hF2, hG2⟩ := hp
  have hW2 : LwI g e0 L K2 (if arC S (xs (4 * q + 1)) (xs (4 * q + 2)) = 0 then (arS S (xs (4 * q + 1)) (xs (4 * q + 2))) else S) o3 o4 (q + 1) μ2 := hW.stepK (ifI (fun h => Iv_arS hI h) hI) hX1 hf3 hf4 hM2 (hR2.up (by omega)) hF2 hG2
  have ho2 := hF2 _ _ ho1 m3
  refine aw_st (st' := [.int r]) rfl ?_
  refine aw_istore C dL_law_203 (by decide) ?_
  refine aw_aload_n C dL_law_205 rfl ?_
  refine aw_st (st' := [.ref (K2 0 0)]) (by rw [hK2]) ?_
  refine aw_callV (n := 0) C hE (ci := 9) (q := (RX7, TX7, 22)) (k_X7_thrown H9.B hM2) gL_law_X7_thrown rfl ⟨rfl, rfl⟩ (by decide +kernel) ⟨by decide, by decide⟩ rfl rfl hM2.mo rfl (Nat.le_of_ble_eq_true rfl) dL_law_206 ⟨by show _ ≤ 601024; omega, by show _ ≤ 7293034; omega⟩ (fun v μ3 hp => ?_)
  obtain ⟨rfl, hm9⟩ := hp
  replace hm9 := hm9.symm
  subst hm9
  refine aw_st (st' := [.int X2.th]) rfl ?_
  refine aw_eqi (y := nI (arC S (xs (4 * q + 1)) (xs (4 * q + 2)))) hth2 ?_
  refine aw_iload C dL_law_209 rfl ?_
  refine aw_icmp_eq C (tgt := 216) dL_law_211 (by decide) (fun _ => ?_) (fun c9 => absurd rfl c9)
  refine aw_iload C dL_law_216 rfl ?_
  refine aw_if_ne C (tgt := 233) dL_law_218 (by decide) (fun c_218 => ?_) (fun c_218 => ?_)
  · refine aw_goto C (tgt := 1778) dL_law_233 (by decide) ?_
    refine aw_iinc C dL_law_1778 rfl (by decide) ?_
    refine aw_goto C (tgt := 28) dL_law_1781 (by decide) ?_
    refine aw_widen (n := 100 + 640 * (q + 1)) (k := 1000 + 4300 * (q + 1)) (by omega) (by omega) ?_
    refine aw_lv (lv' := [(0, .ref b0), (1, .ref (L 0 0)), (2, .ref (K 0 0)), (3, .ref o3), (4, .ref o4), (5, .int (nI (4 * (q + 1))))]) ⟨rfl, rfl, rfl, rfl, rfl, by rw [show 4 * (q + 1) = 4 * q + 4 by omega, ← nI_i4]; rfl, trivial⟩ ?_
    exact nx K2 (if arC S (xs (4 * q + 1)) (xs (4 * q + 2)) = 0 then (arS S (xs (4 * q + 1)) (xs (4 * q + 2))) else S) _ hK2 hW2
  · have hc0 : arC S (xs (4 * q + 1)) (xs (4 * q + 2)) = 0 := nI_inj (b := 0) lt_ar (by decide) c_218
    refine aw_aload_n C dL_law_221 rfl ?_
    refine aw_iconst C (v := 0) (by decide) dL_law_222 ?_
    refine aw_laldE C ho2 (by decide : (0 : Int32) = nI 0) ⟨by decide, by decide⟩ rfl dL_law_223 ?_
    refine aw_iload C dL_law_224 rfl ?_
    refine aw_i2l C dL_law_226 ?_
    refine aw_lcmp C dL_law_227 ?_
    refine aw_eqi (y := 0) (by rw [hf1 hc0, hr hc0]; exact lg_self _) ?_
    refine aw_if_eq C (tgt := 233) dL_law_228 (by decide) (fun _ => ?_) (fun c9 => absurd (by decide) c9)
    refine aw_goto C (tgt := 1778) dL_law_233 (by decide) ?_
    refine aw_iinc C dL_law_1778 rfl (by decide) ?_
    refine aw_goto C (tgt := 28) dL_law_1781 (by decide) ?_
    refine aw_widen (n := 100 + 640 * (q + 1)) (k := 1000 + 4300 * (q + 1)) (by omega) (by omega) ?_
    refine aw_lv (lv' := [(0, .ref b0), (1, .ref (L 0 0)), (2, .ref (K 0 0)), (3, .ref o3), (4, .ref o4), (5, .int (nI (4 * (q + 1))))]) ⟨rfl, rfl, rfl, rfl, rfl, by rw [show 4 * (q + 1) = 4 * q + 4 by omega, ← nI_i4]; rfl, trivial⟩ ?_
    exact nx K2 (if arC S (xs (4 * q + 1)) (xs (4 * q + 2)) = 0 then (arS S (xs (4 * q + 1)) (xs (4 * q + 2))) else S) _ hK2 hW2
set_option maxRecDepth 100000 in
set_option maxHeartbeats 4000000 in
theorem lc_1 {p : Program} {l : Launch} {e : Env} {s : State} {m : MethodId} {below : List Frame} {meth : Method} {c : Code} {Q : State → Prop} {D : va_G} {g : Nat → ClassId} {b0 Ln : Nat} {xs : Nat → Int32} {e0 o3 o4 q : Nat} {L K : Nat → Nat → Nat} {S : SS} {μ : mu} (hl9 : l.stackTraces = false) (H9 : LB s) (bl : BL s g e0) (C : Cx p s m #[Value.ref b0] meth c code RL 9 wsL_law ret s.heap.size D (tyL g)) (hE : EN s s) (hXs : va_X b0 Ln xs s s.heap) (hbl : b0 < s.heap.size) (hLn : Ln ≤ 2048) (hq : 4 * q + 4 ≤ Ln) (hW : LwI g e0 L K S o3 o4 q μ) (nx : ∀ (K' : Nat → Nat → Nat) (S' : SS) (μ' : mu), K' 0 0 = K 0 0 → LwI g e0 L K' S' o3 o4 (q + 1) μ' → Aw p l e room_1 s m #[Value.ref b0] below meth c Q s.heap.size D 9 μ' (100 + 640 * (q + 1)) (1000 + 4300 * (q + 1)) 28 [(0, .ref b0), (1, .ref (L 0 0)), (2, .ref (K 0 0)), (3, .ref o3), (4, .ref o4), (5, .int (nI (4 * (q + 1))))] []) : Aw p l e room_1 s m #[Value.ref b0] below meth c Q s.heap.size D 9 μ (100 + 640 * q) (1000 + 4300 * q) 236 [(0, .ref b0), (1, .ref (L 0 0)), (2, .ref (K 0 0)), (3, .ref o3), (4, .ref o4), (5, .int (nI (4 * q)))] [] := by
  obtain ⟨hX0, ⟨X, hM0, hR0⟩, hI, hD, ⟨f3, h3⟩, ⟨f4, h4⟩, n3, n4, m3, m4, n34⟩ := id hW
  have hq2 : q < 2 ^ 30 := by omega
  refine aw_aload_n C dL_law_236 rfl ?_
  refine aw_aload_n C dL_law_237 rfl ?_
  refine aw_iload C dL_law_238 rfl ?_
  refine aw_iconst C (v := 1) (by decide) dL_law_240 ?_
  refine aw_iadd C dL_law_241 ?_
  refine aw_eqi (y := nI (4 * q + 1)) (nI_1 _) ?_
  refine aw_sld C hXs hbl (k := 4 * q + 1) (by omega) hLn dL_law_242 ?_
  refine aw_aload_n C dL_law_243 rfl ?_
  refine aw_iload C dL_law_244 rfl ?_
  refine aw_iconst C (v := 2) (by decide) dL_law_246 ?_
  refine aw_iadd C dL_law_247 ?_
  refine aw_eqi (y := nI (4 * q + 2)) (nI_a2 _) ?_
  refine aw_sld C hXs hbl (k := 4 * q + 2) (by omega) hLn dL_law_248 ?_
  refine aw_aload_n C dL_law_249 rfl ?_
  refine aw_callSX (n := 4) C hE (k_L_quiver (x := xs (4 * q + 1)) (y := xs (4 * q + 2)) hl9 H9 hX0 hI h3 n3) gL_law_L_quiver rfl ⟨rfl, rfl⟩ (by decide +kernel) ⟨by decide, by decide⟩ rfl rfl (Nat.le_of_ble_eq_true rfl) dL_law_250 ⟨by show _ ≤ 601024; omega, by show _ ≤ 7293034; omega⟩ (fun _ _ h => h) (fun v μ1 hp => ?_)
  obtain ⟨rfl, hX1, ⟨f1, ho1, hf1⟩, hF1⟩ := hp
  have hM1 := hW.moved hM0 hF1 (Or.inl rfl)
  have hf3 : ∃ f : Nat → Int64, μ1 o3 = some (eJ g 1 f) := ⟨f1, ho1⟩
  have hf4 : ∃ f : Nat → UInt64, μ1 o4 = some (eD g 1 f) := ⟨f4, hF1 _ _ h4 n4 n34.symm⟩
  refine aw_st (st' := [.int (nI (quC S (xs (4 * q + 1)) (xs (4 * q + 2))))]) rfl ?_
  refine aw_istore C dL_law_253 (by decide) ?_
  refine aw_aload_n C dL_law_255 rfl ?_
  refine aw_aload_n C dL_law_256 rfl ?_
  refine aw_iload C dL_law_257 rfl ?_
  refine aw_iconst C (v := 1) (by decide) dL_law_259 ?_
  refine aw_iadd C dL_law_260 ?_
  refine aw_eqi (y := nI (4 * q + 1)) (nI_1 _) ?_
  refine aw_sld C hXs hbl (k := 4 * q + 1) (by omega) hLn dL_law_261 ?_
  refine aw_aload_n C dL_law_262 rfl ?_
  refine aw_iload C dL_law_263 rfl ?_
  refine aw_iconst C (v := 2) (by decide) dL_law_265 ?_
  refine aw_iadd C dL_law_266 ?_
  refine aw_eqi (y := nI (4 * q + 2)) (nI_a2 _) ?_
  refine aw_sld C hXs hbl (k := 4 * q + 2) (by omega) hLn dL_law_267 ?_
  refine aw_callV (n := 2) C hE (ci := 9) (q := (RX7, TX7, 22)) (k_X7_quiver (x := xs (4 * q + 1)) (y := xs (4 * q + 2)) H9.B hM1 hI hR0 bl) gL_law_X7_quiver rfl ⟨rfl, rfl⟩ (by decide +kernel) ⟨by decide, by decide⟩ rfl rfl hM1.mo rfl (Nat.le_of_ble_eq_true rfl) dL_law_268 ⟨by show _ ≤ 601024; omega, by show _ ≤ 7293034; omega⟩ (fun v μ2 hp => ?_)
  obtain ⟨⟨r, rfl, hr⟩, K2, hK2, ⟨X2, hM2, hR2, hth2⟩, hF2, hG2⟩ := hp
  have hW2 : LwI g e0 L K2 (if quC S (xs (4 * q + 1)) (xs (4 * q + 2)) = 0 then (quS S (xs (4 * q + 1)) (xs (4 * q + 2))) else S) o3 o4 (q + 1) μ2 := hW.stepK (ifI (fun h => Iv_quS hI h) hI) hX1 hf3 hf4 hM2 (hR2.up (by omega)) hF2 hG2
  have ho2 := hF2 _ _ ho1 m3
  refine aw_st (st' := [.int r]) rfl ?_
  refine aw_istore C dL_law_271 (by decide) ?_
  refine aw_aload_n C dL_law_273 rfl ?_
  refine aw_st (st' := [.ref (K2 0 0)]) (by rw [hK2]) ?_
  refine aw_callV (n := 0) C hE (ci := 9) (q := (RX7, TX7, 22)) (k_X7_thrown H9.B hM2) gL_law_X7_thrown rfl ⟨rfl, rfl⟩ (by decide +kernel) ⟨by decide, by decide⟩ rfl rfl hM2.mo rfl (Nat.le_of_ble_eq_true rfl) dL_law_274 ⟨by show _ ≤ 601024; omega, by show _ ≤ 7293034; omega⟩ (fun v μ3 hp => ?_)
  obtain ⟨rfl, hm9⟩ := hp
  replace hm9 := hm9.symm
  subst hm9
  refine aw_st (st' := [.int X2.th]) rfl ?_
  refine aw_eqi (y := nI (quC S (xs (4 * q + 1)) (xs (4 * q + 2)))) hth2 ?_
  refine aw_iload C dL_law_277 rfl ?_
  refine aw_icmp_eq C (tgt := 284) dL_law_279 (by decide) (fun _ => ?_) (fun c9 => absurd rfl c9)
  refine aw_iload C dL_law_284 rfl ?_
  refine aw_if_ne C (tgt := 301) dL_law_286 (by decide) (fun c_286 => ?_) (fun c_286 => ?_)
  · refine aw_goto C (tgt := 1778) dL_law_301 (by decide) ?_
    refine aw_iinc C dL_law_1778 rfl (by decide) ?_
    refine aw_goto C (tgt := 28) dL_law_1781 (by decide) ?_
    refine aw_widen (n := 100 + 640 * (q + 1)) (k := 1000 + 4300 * (q + 1)) (by omega) (by omega) ?_
    refine aw_lv (lv' := [(0, .ref b0), (1, .ref (L 0 0)), (2, .ref (K 0 0)), (3, .ref o3), (4, .ref o4), (5, .int (nI (4 * (q + 1))))]) ⟨rfl, rfl, rfl, rfl, rfl, by rw [show 4 * (q + 1) = 4 * q + 4 by omega, ← nI_i4]; rfl, trivial⟩ ?_
    exact nx K2 (if quC S (xs (4 * q + 1)) (xs (4 * q + 2)) = 0 then (quS S (xs (4 * q + 1)) (xs (4 * q + 2))) else S) _ hK2 hW2
  · have hc0 : quC S (xs (4 * q + 1)) (xs (4 * q + 2)) = 0 := nI_inj (b := 0) lt_qu (by decide) c_286
    refine aw_aload_n C dL_law_289 rfl ?_
    refine aw_iconst C (v := 0) (by decide) dL_law_290 ?_
    refine aw_laldE C ho2 (by decide : (0 : Int32) = nI 0) ⟨by decide, by decide⟩ rfl dL_law_291 ?_
    refine aw_iload C dL_law_292 rfl ?_
    refine aw_i2l C dL_law_294 ?_
    refine aw_lcmp C dL_law_295 ?_
    refine aw_eqi (y := 0) (by rw [hf1 hc0, hr hc0]; exact lg_self _) ?_
    refine aw_if_eq C (tgt := 301) dL_law_296 (by decide) (fun _ => ?_) (fun c9 => absurd (by decide) c9)
    refine aw_goto C (tgt := 1778) dL_law_301 (by decide) ?_
    refine aw_iinc C dL_law_1778 rfl (by decide) ?_
    refine aw_goto C (tgt := 28) dL_law_1781 (by decide) ?_
    refine aw_widen (n := 100 + 640 * (q + 1)) (k := 1000 + 4300 * (q + 1)) (by omega) (by omega) ?_
    refine aw_lv (lv' := [(0, .ref b0), (1, .ref (L 0 0)), (2, .ref (K 0 0)), (3, .ref o3), (4, .ref o4), (5, .int (nI (4 * (q + 1))))]) ⟨rfl, rfl, rfl, rfl, rfl, by rw [show 4 * (q + 1) = 4 * q + 4 by omega, ← nI_i4]; rfl, trivial⟩ ?_
    exact nx K2 (if quC S (xs (4 * q + 1)) (xs (4 * q + 2)) = 0 then (quS S (xs (4 * q + 1)) (xs (4 * q + 2))) else S) _ hK2 hW2
set_option maxRecDepth 100000 in
set_option maxHeartbeats 4000000 in
theorem lc_2 {p : Program} {l : Launch} {e : Env} {s : State} {m : MethodId} {below : List Frame} {meth : Method} {c : Code} {Q : State → Prop} {D : va_G} {g : Nat → ClassId} {b0 Ln : Nat} {xs : Nat → Int32} {e0 o3 o4 q : Nat} {L K : Nat → Nat → Nat} {S : SS} {μ : mu} (hl9 : l.stackTraces = false) (H9 : LB s) (bl : BL s g e0) (C : Cx p s m #[Value.ref b0] meth c code RL 9 wsL_law ret s.heap.size D (tyL g)) (hE : EN s s) (hXs : va_X b0 Ln xs s s.heap) (hbl : b0 < s.heap.size) (hLn : Ln ≤ 2048) (hq : 4 * q + 4 ≤ Ln) (hW : LwI g e0 L K S o3 o4 q μ) (nx : ∀ (K' : Nat → Nat → Nat) (S' : SS) (μ' : mu), K' 0 0 = K 0 0 → LwI g e0 L K' S' o3 o4 (q + 1) μ' → Aw p l e room_1 s m #[Value.ref b0] below meth c Q s.heap.size D 9 μ' (100 + 640 * (q + 1)) (1000 + 4300 * (q + 1)) 28 [(0, .ref b0), (1, .ref (L 0 0)), (2, .ref (K 0 0)), (3, .ref o3), (4, .ref o4), (5, .int (nI (4 * (q + 1))))] []) : Aw p l e room_1 s m #[Value.ref b0] below meth c Q s.heap.size D 9 μ (100 + 640 * q) (1000 + 4300 * q) 304 [(0, .ref b0), (1, .ref (L 0 0)), (2, .ref (K 0 0)), (3, .ref o3), (4, .ref o4), (5, .int (nI (4 * q)))] [] := by
  obtain ⟨hX0, ⟨X, hM0, hR0⟩, hI, hD, ⟨f3, h3⟩, ⟨f4, h4⟩, n3, n4, m3, m4, n34⟩ := id hW
  have hq2 : q < 2 ^ 30 := by omega
  refine aw_aload_n C dL_law_304 rfl ?_
  refine aw_aload_n C dL_law_305 rfl ?_
  refine aw_iload C dL_law_306 rfl ?_
  refine aw_iconst C (v := 1) (by decide) dL_law_308 ?_
  refine aw_iadd C dL_law_309 ?_
  refine aw_eqi (y := nI (4 * q + 1)) (nI_1 _) ?_
  refine aw_sld C hXs hbl (k := 4 * q + 1) (by omega) hLn dL_law_310 ?_
  refine aw_aload_n C dL_law_311 rfl ?_
  refine aw_iload C dL_law_312 rfl ?_
  refine aw_iconst C (v := 2) (by decide) dL_law_314 ?_
  refine aw_iadd C dL_law_315 ?_
  refine aw_eqi (y := nI (4 * q + 2)) (nI_a2 _) ?_
  refine aw_sld C hXs hbl (k := 4 * q + 2) (by omega) hLn dL_law_316 ?_
  refine aw_aload_n C dL_law_317 rfl ?_
  refine aw_callSX (n := 4) C hE (k_L_give (x := xs (4 * q + 1)) (y := xs (4 * q + 2)) hl9 H9 hX0 hI h3 n3) gL_law_L_give rfl ⟨rfl, rfl⟩ (by decide +kernel) ⟨by decide, by decide⟩ rfl rfl (Nat.le_of_ble_eq_true rfl) dL_law_318 ⟨by show _ ≤ 601024; omega, by show _ ≤ 7293034; omega⟩ (fun _ _ h => h) (fun v μ1 hp => ?_)
  obtain ⟨rfl, hX1, ⟨f1, ho1, hf1⟩, hF1⟩ := hp
  have hM1 := hW.moved hM0 hF1 (Or.inl rfl)
  have hf3 : ∃ f : Nat → Int64, μ1 o3 = some (eJ g 1 f) := ⟨f1, ho1⟩
  have hf4 : ∃ f : Nat → UInt64, μ1 o4 = some (eD g 1 f) := ⟨f4, hF1 _ _ h4 n4 n34.symm⟩
  refine aw_st (st' := [.int (nI (giC S (xs (4 * q + 1)) (xs (4 * q + 2))))]) rfl ?_
  refine aw_istore C dL_law_321 (by decide) ?_
  refine aw_aload_n C dL_law_323 rfl ?_
  refine aw_aload_n C dL_law_324 rfl ?_
  refine aw_iload C dL_law_325 rfl ?_
  refine aw_iconst C (v := 1) (by decide) dL_law_327 ?_
  refine aw_iadd C dL_law_328 ?_
  refine aw_eqi (y := nI (4 * q + 1)) (nI_1 _) ?_
  refine aw_sld C hXs hbl (k := 4 * q + 1) (by omega) hLn dL_law_329 ?_
  refine aw_aload_n C dL_law_330 rfl ?_
  refine aw_iload C dL_law_331 rfl ?_
  refine aw_iconst C (v := 2) (by decide) dL_law_333 ?_
  refine aw_iadd C dL_law_334 ?_
  refine aw_eqi (y := nI (4 * q + 2)) (nI_a2 _) ?_
  refine aw_sld C hXs hbl (k := 4 * q + 2) (by omega) hLn dL_law_335 ?_
  refine aw_callV (n := 2) C hE (ci := 9) (q := (RX7, TX7, 22)) (k_X7_give (x := xs (4 * q + 1)) (y := xs (4 * q + 2)) H9.B hM1 hI hR0) gL_law_X7_give rfl ⟨rfl, rfl⟩ (by decide +kernel) ⟨by decide, by decide⟩ rfl rfl hM1.mo rfl (Nat.le_of_ble_eq_true rfl) dL_law_336 ⟨by show _ ≤ 601024; omega, by show _ ≤ 7293034; omega⟩ (fun v μ2 hp => ?_)
  obtain ⟨⟨r, rfl, hr⟩, ⟨X2, hM2, hR2, hth2⟩, hF2⟩ := hp
  have hW2 : LwI g e0 L K (if giC S (xs (4 * q + 1)) (xs (4 * q + 2)) = 0 then (giS S (ix (xs (4 * q + 1))) (xs (4 * q + 2))) else S) o3 o4 (q + 1) μ2 := hW.step (ifn (giS_n _ _ _)) (ifI (fun h => Iv_gi hI h) hI) hX1 hf3 hf4 hM2 (hR2.up (by omega)) hF2
  have ho2 := hF2 _ _ ho1 m3
  refine aw_st (st' := [.int r]) rfl ?_
  refine aw_istore C dL_law_339 (by decide) ?_
  refine aw_aload_n C dL_law_341 rfl ?_
  refine aw_callV (n := 0) C hE (ci := 9) (q := (RX7, TX7, 22)) (k_X7_thrown H9.B hM2) gL_law_X7_thrown rfl ⟨rfl, rfl⟩ (by decide +kernel) ⟨by decide, by decide⟩ rfl rfl hM2.mo rfl (Nat.le_of_ble_eq_true rfl) dL_law_342 ⟨by show _ ≤ 601024; omega, by show _ ≤ 7293034; omega⟩ (fun v μ3 hp => ?_)
  obtain ⟨rfl, hm9⟩ := hp
  replace hm9 := hm9.symm
  subst hm9
  refine aw_st (st' := [.int X2.th]) rfl ?_
  refine aw_eqi (y := nI (giC S (xs (4 * q + 1)) (xs (4 * q + 2)))) hth2 ?_
  refine aw_iload C dL_law_345 rfl ?_
  refine aw_icmp_eq C (tgt := 352) dL_law_347 (by decide) (fun _ => ?_) (fun c9 => absurd rfl c9)
  refine aw_iload C dL_law_352 rfl ?_
  refine aw_if_ne C (tgt := 369) dL_law_354 (by decide) (fun c_354 => ?_) (fun c_354 => ?_)
  · refine aw_goto C (tgt := 1778) dL_law_369 (by decide) ?_
    refine aw_iinc C dL_law_1778 rfl (by decide) ?_
    refine aw_goto C (tgt := 28) dL_law_1781 (by decide) ?_
    refine aw_widen (n := 100 + 640 * (q + 1)) (k := 1000 + 4300 * (q + 1)) (by omega) (by omega) ?_
    refine aw_lv (lv' := [(0, .ref b0), (1, .ref (L 0 0)), (2, .ref (K 0 0)), (3, .ref o3), (4, .ref o4), (5, .int (nI (4 * (q + 1))))]) ⟨rfl, rfl, rfl, rfl, rfl, by rw [show 4 * (q + 1) = 4 * q + 4 by omega, ← nI_i4]; rfl, trivial⟩ ?_
    exact nx K (if giC S (xs (4 * q + 1)) (xs (4 * q + 2)) = 0 then (giS S (ix (xs (4 * q + 1))) (xs (4 * q + 2))) else S) _ rfl hW2
  · have hc0 : giC S (xs (4 * q + 1)) (xs (4 * q + 2)) = 0 := nI_inj (b := 0) lt_gi (by decide) c_354
    refine aw_aload_n C dL_law_357 rfl ?_
    refine aw_iconst C (v := 0) (by decide) dL_law_358 ?_
    refine aw_laldE C ho2 (by decide : (0 : Int32) = nI 0) ⟨by decide, by decide⟩ rfl dL_law_359 ?_
    refine aw_iload C dL_law_360 rfl ?_
    refine aw_i2l C dL_law_362 ?_
    refine aw_lcmp C dL_law_363 ?_
    refine aw_eqi (y := 0) (by rw [hf1 hc0, hr hc0]; exact lg_self _) ?_
    refine aw_if_eq C (tgt := 369) dL_law_364 (by decide) (fun _ => ?_) (fun c9 => absurd (by decide) c9)
    refine aw_goto C (tgt := 1778) dL_law_369 (by decide) ?_
    refine aw_iinc C dL_law_1778 rfl (by decide) ?_
    refine aw_goto C (tgt := 28) dL_law_1781 (by decide) ?_
    refine aw_widen (n := 100 + 640 * (q + 1)) (k := 1000 + 4300 * (q + 1)) (by omega) (by omega) ?_
    refine aw_lv (lv' := [(0, .ref b0), (1, .ref (L 0 0)), (2, .ref (K 0 0)), (3, .ref o3), (4, .ref o4), (5, .int (nI (4 * (q + 1))))]) ⟨rfl, rfl, rfl, rfl, rfl, by rw [show 4 * (q + 1) = 4 * q + 4 by omega, ← nI_i4]; rfl, trivial⟩ ?_
    exact nx K (if giC S (xs (4 * q + 1)) (xs (4 * q + 2)) = 0 then (giS S (ix (xs (4 * q + 1))) (xs (4 * q + 2))) else S) _ rfl hW2
set_option maxRecDepth 100000 in
set_option maxHeartbeats 4000000 in
theorem lc_3 {p : Program} {l : Launch} {e : Env} {s : State} {m : MethodId} {below : List Frame} {meth : Method} {c : Code} {Q : State → Prop} {D : va_G} {g : Nat → ClassId} {b0 Ln : Nat} {xs : Nat → Int32} {e0 o3 o4 q : Nat} {L K : Nat → Nat → Nat} {S : SS} {μ : mu} (hl9 : l.stackTraces = false) (H9 : LB s) (bl : BL s g e0) (C : Cx p s m #[Value.ref b0] meth c code RL 9 wsL_law ret s.heap.size D (tyL g)) (hE : EN s s) (hXs : va_X b0 Ln xs s s.heap) (hbl : b0 < s.heap.size) (hLn : Ln ≤ 2048) (hq : 4 * q + 4 ≤ Ln) (hW : LwI g e0 L K S o3 o4 q μ) (nx : ∀ (K' : Nat → Nat → Nat) (S' : SS) (μ' : mu), K' 0 0 = K 0 0 → LwI g e0 L K' S' o3 o4 (q + 1) μ' → Aw p l e room_1 s m #[Value.ref b0] below meth c Q s.heap.size D 9 μ' (100 + 640 * (q + 1)) (1000 + 4300 * (q + 1)) 28 [(0, .ref b0), (1, .ref (L 0 0)), (2, .ref (K 0 0)), (3, .ref o3), (4, .ref o4), (5, .int (nI (4 * (q + 1))))] []) : Aw p l e room_1 s m #[Value.ref b0] below meth c Q s.heap.size D 9 μ (100 + 640 * q) (1000 + 4300 * q) 372 [(0, .ref b0), (1, .ref (L 0 0)), (2, .ref (K 0 0)), (3, .ref o3), (4, .ref o4), (5, .int (nI (4 * q)))] [] := by
  obtain ⟨hX0, ⟨X, hM0, hR0⟩, hI, hD, ⟨f3, h3⟩, ⟨f4, h4⟩, n3, n4, m3, m4, n34⟩ := id hW
  have hq2 : q < 2 ^ 30 := by omega
  refine aw_aload_n C dL_law_372 rfl ?_
  refine aw_aload_n C dL_law_373 rfl ?_
  refine aw_iload C dL_law_374 rfl ?_
  refine aw_iconst C (v := 1) (by decide) dL_law_376 ?_
  refine aw_iadd C dL_law_377 ?_
  refine aw_eqi (y := nI (4 * q + 1)) (nI_1 _) ?_
  refine aw_sld C hXs hbl (k := 4 * q + 1) (by omega) hLn dL_law_378 ?_
  refine aw_aload_n C dL_law_379 rfl ?_
  refine aw_iload C dL_law_380 rfl ?_
  refine aw_iconst C (v := 2) (by decide) dL_law_382 ?_
  refine aw_iadd C dL_law_383 ?_
  refine aw_eqi (y := nI (4 * q + 2)) (nI_a2 _) ?_
  refine aw_sld C hXs hbl (k := 4 * q + 2) (by omega) hLn dL_law_384 ?_
  refine aw_aload_n C dL_law_385 rfl ?_
  refine aw_iload C dL_law_386 rfl ?_
  refine aw_iconst C (v := 3) (by decide) dL_law_388 ?_
  refine aw_iadd C dL_law_389 ?_
  refine aw_eqi (y := nI (4 * q + 3)) (nI_a3 _) ?_
  refine aw_sld C hXs hbl (k := 4 * q + 3) (by omega) hLn dL_law_390 ?_
  refine aw_aload_n C dL_law_391 rfl ?_
  refine aw_callSX (n := 5) C hE (k_L_tune (x := xs (4 * q + 1)) (y := xs (4 * q + 2)) (z := xs (4 * q + 3)) hl9 H9 hX0 hI h3 n3) gL_law_L_tune rfl ⟨rfl, rfl⟩ (by decide +kernel) ⟨by decide, by decide⟩ rfl rfl (Nat.le_of_ble_eq_true rfl) dL_law_392 ⟨by show _ ≤ 601024; omega, by show _ ≤ 7293034; omega⟩ (fun _ _ h => h) (fun v μ1 hp => ?_)
  obtain ⟨rfl, hX1, ⟨f1, ho1, hf1⟩, hF1⟩ := hp
  have hM1 := hW.moved hM0 hF1 (Or.inl rfl)
  have hf3 : ∃ f : Nat → Int64, μ1 o3 = some (eJ g 1 f) := ⟨f1, ho1⟩
  have hf4 : ∃ f : Nat → UInt64, μ1 o4 = some (eD g 1 f) := ⟨f4, hF1 _ _ h4 n4 n34.symm⟩
  refine aw_st (st' := [.int (nI (tuC S (xs (4 * q + 1)) (xs (4 * q + 2)) (xs (4 * q + 3))))]) rfl ?_
  refine aw_istore C dL_law_395 (by decide) ?_
  refine aw_aload_n C dL_law_397 rfl ?_
  refine aw_aload_n C dL_law_398 rfl ?_
  refine aw_iload C dL_law_399 rfl ?_
  refine aw_iconst C (v := 1) (by decide) dL_law_401 ?_
  refine aw_iadd C dL_law_402 ?_
  refine aw_eqi (y := nI (4 * q + 1)) (nI_1 _) ?_
  refine aw_sld C hXs hbl (k := 4 * q + 1) (by omega) hLn dL_law_403 ?_
  refine aw_aload_n C dL_law_404 rfl ?_
  refine aw_iload C dL_law_405 rfl ?_
  refine aw_iconst C (v := 2) (by decide) dL_law_407 ?_
  refine aw_iadd C dL_law_408 ?_
  refine aw_eqi (y := nI (4 * q + 2)) (nI_a2 _) ?_
  refine aw_sld C hXs hbl (k := 4 * q + 2) (by omega) hLn dL_law_409 ?_
  refine aw_aload_n C dL_law_410 rfl ?_
  refine aw_iload C dL_law_411 rfl ?_
  refine aw_iconst C (v := 3) (by decide) dL_law_413 ?_
  refine aw_iadd C dL_law_414 ?_
  refine aw_eqi (y := nI (4 * q + 3)) (nI_a3 _) ?_
  refine aw_sld C hXs hbl (k := 4 * q + 3) (by omega) hLn dL_law_415 ?_
  refine aw_callV (n := 3) C hE (ci := 9) (q := (RX7, TX7, 22)) (k_X7_tune (x := xs (4 * q + 1)) (y := xs (4 * q + 2)) (z := xs (4 * q + 3)) H9.B hM1 hI hR0) gL_law_X7_tune rfl ⟨rfl, rfl⟩ (by decide +kernel) ⟨by decide, by decide⟩ rfl rfl hM1.mo rfl (Nat.le_of_ble_eq_true rfl) dL_law_416 ⟨by show _ ≤ 601024; omega, by show _ ≤ 7293034; omega⟩ (fun v μ2 hp => ?_)
  obtain ⟨⟨r, rfl, hr⟩, ⟨X2, hM2, hR2, hth2⟩, hF2⟩ := hp
  have hW2 : LwI g e0 L K (if tuC S (xs (4 * q + 1)) (xs (4 * q + 2)) (xs (4 * q + 3)) = 0 then (tuS S (ix (xs (4 * q + 1))) (xs (4 * q + 2)) (xs (4 * q + 3))) else S) o3 o4 (q + 1) μ2 := hW.step (ifn ⟨rfl, rfl⟩) (ifI (fun h => Iv_tu hI h) hI) hX1 hf3 hf4 hM2 (hR2.up (by omega)) hF2
  have ho2 := hF2 _ _ ho1 m3
  refine aw_st (st' := [.int r]) rfl ?_
  refine aw_istore C dL_law_419 (by decide) ?_
  refine aw_aload_n C dL_law_421 rfl ?_
  refine aw_callV (n := 0) C hE (ci := 9) (q := (RX7, TX7, 22)) (k_X7_thrown H9.B hM2) gL_law_X7_thrown rfl ⟨rfl, rfl⟩ (by decide +kernel) ⟨by decide, by decide⟩ rfl rfl hM2.mo rfl (Nat.le_of_ble_eq_true rfl) dL_law_422 ⟨by show _ ≤ 601024; omega, by show _ ≤ 7293034; omega⟩ (fun v μ3 hp => ?_)
  obtain ⟨rfl, hm9⟩ := hp
  replace hm9 := hm9.symm
  subst hm9
  refine aw_st (st' := [.int X2.th]) rfl ?_
  refine aw_eqi (y := nI (tuC S (xs (4 * q + 1)) (xs (4 * q + 2)) (xs (4 * q + 3)))) hth2 ?_
  refine aw_iload C dL_law_425 rfl ?_
  refine aw_icmp_eq C (tgt := 432) dL_law_427 (by decide) (fun _ => ?_) (fun c9 => absurd rfl c9)
  refine aw_iload C dL_law_432 rfl ?_
  refine aw_if_ne C (tgt := 449) dL_law_434 (by decide) (fun c_434 => ?_) (fun c_434 => ?_)
  · refine aw_goto C (tgt := 1778) dL_law_449 (by decide) ?_
    refine aw_iinc C dL_law_1778 rfl (by decide) ?_
    refine aw_goto C (tgt := 28) dL_law_1781 (by decide) ?_
    refine aw_widen (n := 100 + 640 * (q + 1)) (k := 1000 + 4300 * (q + 1)) (by omega) (by omega) ?_
    refine aw_lv (lv' := [(0, .ref b0), (1, .ref (L 0 0)), (2, .ref (K 0 0)), (3, .ref o3), (4, .ref o4), (5, .int (nI (4 * (q + 1))))]) ⟨rfl, rfl, rfl, rfl, rfl, by rw [show 4 * (q + 1) = 4 * q + 4 by omega, ← nI_i4]; rfl, trivial⟩ ?_
    exact nx K (if tuC S (xs (4 * q + 1)) (xs (4 * q + 2)) (xs (4 * q + 3)) = 0 then (tuS S (ix (xs (4 * q + 1))) (xs (4 * q + 2)) (xs (4 * q + 3))) else S) _ rfl hW2
  · have hc0 : tuC S (xs (4 * q + 1)) (xs (4 * q + 2)) (xs (4 * q + 3)) = 0 := nI_inj (b := 0) lt_tu (by decide) c_434
    refine aw_aload_n C dL_law_437 rfl ?_
    refine aw_iconst C (v := 0) (by decide) dL_law_438 ?_
    refine aw_laldE C ho2 (by decide : (0 : Int32) = nI 0) ⟨by decide, by decide⟩ rfl dL_law_439 ?_
    refine aw_iload C dL_law_440 rfl ?_
    refine aw_i2l C dL_law_442 ?_
    refine aw_lcmp C dL_law_443 ?_
    refine aw_eqi (y := 0) (by rw [hf1 hc0, hr hc0]; exact lg_self _) ?_
    refine aw_if_eq C (tgt := 449) dL_law_444 (by decide) (fun _ => ?_) (fun c9 => absurd (by decide) c9)
    refine aw_goto C (tgt := 1778) dL_law_449 (by decide) ?_
    refine aw_iinc C dL_law_1778 rfl (by decide) ?_
    refine aw_goto C (tgt := 28) dL_law_1781 (by decide) ?_
    refine aw_widen (n := 100 + 640 * (q + 1)) (k := 1000 + 4300 * (q + 1)) (by omega) (by omega) ?_
    refine aw_lv (lv' := [(0, .ref b0), (1, .ref (L 0 0)), (2, .ref (K 0 0)), (3, .ref o3), (4, .ref o4), (5, .int (nI (4 * (q + 1))))]) ⟨rfl, rfl, rfl, rfl, rfl, by rw [show 4 * (q + 1) = 4 * q + 4 by omega, ← nI_i4]; rfl, trivial⟩ ?_
    exact nx K (if tuC S (xs (4 * q + 1)) (xs (4 * q + 2)) (xs (4 * q + 3)) = 0 then (tuS S (ix (xs (4 * q + 1))) (xs (4 * q + 2)) (xs (4 * q + 3))) else S) _ rfl hW2
set_option maxRecDepth 100000 in
set_option maxHeartbeats 4000000 in
theorem lc_4 {p : Program} {l : Launch} {e : Env} {s : State} {m : MethodId} {below : List Frame} {meth : Method} {c : Code} {Q : State → Prop} {D : va_G} {g : Nat → ClassId} {b0 Ln : Nat} {xs : Nat → Int32} {e0 o3 o4 q : Nat} {L K : Nat → Nat → Nat} {S : SS} {μ : mu} (hl9 : l.stackTraces = false) (H9 : LB s) (bl : BL s g e0) (C : Cx p s m #[Value.ref b0] meth c code RL 9 wsL_law ret s.heap.size D (tyL g)) (hE : EN s s) (hXs : va_X b0 Ln xs s s.heap) (hbl : b0 < s.heap.size) (hLn : Ln ≤ 2048) (hq : 4 * q + 4 ≤ Ln) (hW : LwI g e0 L K S o3 o4 q μ) (nx : ∀ (K' : Nat → Nat → Nat) (S' : SS) (μ' : mu), K' 0 0 = K 0 0 → LwI g e0 L K' S' o3 o4 (q + 1) μ' → Aw p l e room_1 s m #[Value.ref b0] below meth c Q s.heap.size D 9 μ' (100 + 640 * (q + 1)) (1000 + 4300 * (q + 1)) 28 [(0, .ref b0), (1, .ref (L 0 0)), (2, .ref (K 0 0)), (3, .ref o3), (4, .ref o4), (5, .int (nI (4 * (q + 1))))] []) : Aw p l e room_1 s m #[Value.ref b0] below meth c Q s.heap.size D 9 μ (100 + 640 * q) (1000 + 4300 * q) 452 [(0, .ref b0), (1, .ref (L 0 0)), (2, .ref (K 0 0)), (3, .ref o3), (4, .ref o4), (5, .int (nI (4 * q)))] [] := by
  obtain ⟨hX0, ⟨X, hM0, hR0⟩, hI, hD, ⟨f3, h3⟩, ⟨f4, h4⟩, n3, n4, m3, m4, n34⟩ := id hW
  have hq2 : q < 2 ^ 30 := by omega
  refine aw_aload_n C dL_law_452 rfl ?_
  refine aw_aload_n C dL_law_453 rfl ?_
  refine aw_iload C dL_law_454 rfl ?_
  refine aw_iconst C (v := 1) (by decide) dL_law_456 ?_
  refine aw_iadd C dL_law_457 ?_
  refine aw_eqi (y := nI (4 * q + 1)) (nI_1 _) ?_
  refine aw_sld C hXs hbl (k := 4 * q + 1) (by omega) hLn dL_law_458 ?_
  refine aw_aload C dL_law_459 rfl ?_
  refine aw_callSX (n := 3) C hE (k_L_string (x := xs (4 * q + 1)) hl9 H9 hX0 hI h4 n4) gL_law_L_string rfl ⟨rfl, rfl⟩ (by decide +kernel) ⟨by decide, by decide⟩ rfl rfl (Nat.le_of_ble_eq_true rfl) dL_law_461 ⟨by show _ ≤ 601024; omega, by show _ ≤ 7293034; omega⟩ (fun _ _ h => h) (fun v μ1 hp => ?_)
  obtain ⟨rfl, hX1, ⟨f1, ho1, hf1⟩, hF1⟩ := hp
  have hM1 := hW.moved hM0 hF1 (Or.inr rfl)
  have hf4 : ∃ f : Nat → UInt64, μ1 o4 = some (eD g 1 f) := ⟨f1, ho1⟩
  have hf3 : ∃ f : Nat → Int64, μ1 o3 = some (eJ g 1 f) := ⟨f3, hF1 _ _ h3 n3 n34⟩
  refine aw_st (st' := [.int (nI (stC S (xs (4 * q + 1))))]) rfl ?_
  refine aw_istore C dL_law_464 (by decide) ?_
  refine aw_aload_n C dL_law_466 rfl ?_
  refine aw_aload_n C dL_law_467 rfl ?_
  refine aw_iload C dL_law_468 rfl ?_
  refine aw_iconst C (v := 1) (by decide) dL_law_470 ?_
  refine aw_iadd C dL_law_471 ?_
  refine aw_eqi (y := nI (4 * q + 1)) (nI_1 _) ?_
  refine aw_sld C hXs hbl (k := 4 * q + 1) (by omega) hLn dL_law_472 ?_
  refine aw_callV (n := 1) C hE (ci := 9) (q := (RX7, TX7, 22)) (k_X7_string (x := xs (4 * q + 1)) H9.B hM1 hI hR0) gL_law_X7_string rfl ⟨rfl, rfl⟩ (by decide +kernel) ⟨by decide, by decide⟩ rfl rfl hM1.mo rfl (Nat.le_of_ble_eq_true rfl) dL_law_473 ⟨by show _ ≤ 601024; omega, by show _ ≤ 7293034; omega⟩ (fun v μ2 hp => ?_)
  obtain ⟨⟨r, rfl, hr⟩, ⟨X2, hM2, hR2, hth2⟩, hF2⟩ := hp
  have hW2 : LwI g e0 L K (if stC S (xs (4 * q + 1)) = 0 then (stS S (ix (xs (4 * q + 1)))) else S) o3 o4 (q + 1) μ2 := hW.step (ifn ⟨rfl, rfl⟩) (ifI (fun h => Iv_st hI h) hI) hX1 hf3 hf4 hM2 (hR2.up (by omega)) hF2
  have ho2 := hF2 _ _ ho1 m4
  refine aw_st (st' := [.double r]) rfl ?_
  refine aw_dstore C dL_law_476 (by decide) ?_
  refine aw_aload_n C dL_law_478 rfl ?_
  refine aw_callV (n := 0) C hE (ci := 9) (q := (RX7, TX7, 22)) (k_X7_thrown H9.B hM2) gL_law_X7_thrown rfl ⟨rfl, rfl⟩ (by decide +kernel) ⟨by decide, by decide⟩ rfl rfl hM2.mo rfl (Nat.le_of_ble_eq_true rfl) dL_law_479 ⟨by show _ ≤ 601024; omega, by show _ ≤ 7293034; omega⟩ (fun v μ3 hp => ?_)
  obtain ⟨rfl, hm9⟩ := hp
  replace hm9 := hm9.symm
  subst hm9
  refine aw_st (st' := [.int X2.th]) rfl ?_
  refine aw_eqi (y := nI (stC S (xs (4 * q + 1)))) hth2 ?_
  refine aw_iload C dL_law_482 rfl ?_
  refine aw_icmp_eq C (tgt := 489) dL_law_484 (by decide) (fun _ => ?_) (fun c9 => absurd rfl c9)
  refine aw_iload C dL_law_489 rfl ?_
  refine aw_if_ne C (tgt := 526) dL_law_491 (by decide) (fun c_491 => ?_) (fun c_491 => ?_)
  · refine aw_goto C (tgt := 1778) dL_law_526 (by decide) ?_
    refine aw_iinc C dL_law_1778 rfl (by decide) ?_
    refine aw_goto C (tgt := 28) dL_law_1781 (by decide) ?_
    refine aw_widen (n := 100 + 640 * (q + 1)) (k := 1000 + 4300 * (q + 1)) (by omega) (by omega) ?_
    refine aw_lv (lv' := [(0, .ref b0), (1, .ref (L 0 0)), (2, .ref (K 0 0)), (3, .ref o3), (4, .ref o4), (5, .int (nI (4 * (q + 1))))]) ⟨rfl, rfl, rfl, rfl, rfl, by rw [show 4 * (q + 1) = 4 * q + 4 by omega, ← nI_i4]; rfl, trivial⟩ ?_
    exact nx K (if stC S (xs (4 * q + 1)) = 0 then (stS S (ix (xs (4 * q + 1)))) else S) _ rfl hW2
  · have hc0 : stC S (xs (4 * q + 1)) = 0 := nI_inj (b := 0) lt_st (by decide) c_491
    refine aw_aload C dL_law_494 rfl ?_
    refine aw_iconst C (v := 0) (by decide) dL_law_496 ?_
    refine aw_daldE C ho2 (by decide : (0 : Int32) = nI 0) ⟨by decide, by decide⟩ rfl dL_law_497 ?_
    refine aw_dload C dL_law_498 rfl ?_
    refine aw_dcmp C dL_law_500 ?_
    refine aw_eqi (y := 0) (by rw [hf1 hc0, hr hc0]; exact (kv_eq0 (nn_st hI hc0) (nn_st hI hc0) .l).mpr rfl) ?_
    refine aw_if_eq C (tgt := 526) dL_law_501 (by decide) (fun _ => ?_) (fun c9 => absurd (by decide) c9)
    refine aw_goto C (tgt := 1778) dL_law_526 (by decide) ?_
    refine aw_iinc C dL_law_1778 rfl (by decide) ?_
    refine aw_goto C (tgt := 28) dL_law_1781 (by decide) ?_
    refine aw_widen (n := 100 + 640 * (q + 1)) (k := 1000 + 4300 * (q + 1)) (by omega) (by omega) ?_
    refine aw_lv (lv' := [(0, .ref b0), (1, .ref (L 0 0)), (2, .ref (K 0 0)), (3, .ref o3), (4, .ref o4), (5, .int (nI (4 * (q + 1))))]) ⟨rfl, rfl, rfl, rfl, rfl, by rw [show 4 * (q + 1) = 4 * q + 4 by omega, ← nI_i4]; rfl, trivial⟩ ?_
    exact nx K (if stC S (xs (4 * q + 1)) = 0 then (stS S (ix (xs (4 * q + 1)))) else S) _ rfl hW2
set_option maxRecDepth 100000 in
set_option maxHeartbeats 4000000 in
theorem lc_5 {p : Program} {l : Launch} {e : Env} {s : State} {m : MethodId} {below : List Frame} {meth : Method} {c : Code} {Q : State → Prop} {D : va_G} {g : Nat → ClassId} {b0 Ln : Nat} {xs : Nat → Int32} {e0 o3 o4 q : Nat} {L K : Nat → Nat → Nat} {S : SS} {μ : mu} (hl9 : l.stackTraces = false) (H9 : LB s) (bl : BL s g e0) (C : Cx p s m #[Value.ref b0] meth c code RL 9 wsL_law ret s.heap.size D (tyL g)) (hE : EN s s) (hXs : va_X b0 Ln xs s s.heap) (hbl : b0 < s.heap.size) (hLn : Ln ≤ 2048) (hq : 4 * q + 4 ≤ Ln) (hW : LwI g e0 L K S o3 o4 q μ) (nx : ∀ (K' : Nat → Nat → Nat) (S' : SS) (μ' : mu), K' 0 0 = K 0 0 → LwI g e0 L K' S' o3 o4 (q + 1) μ' → Aw p l e room_1 s m #[Value.ref b0] below meth c Q s.heap.size D 9 μ' (100 + 640 * (q + 1)) (1000 + 4300 * (q + 1)) 28 [(0, .ref b0), (1, .ref (L 0 0)), (2, .ref (K 0 0)), (3, .ref o3), (4, .ref o4), (5, .int (nI (4 * (q + 1))))] []) : Aw p l e room_1 s m #[Value.ref b0] below meth c Q s.heap.size D 9 μ (100 + 640 * q) (1000 + 4300 * q) 529 [(0, .ref b0), (1, .ref (L 0 0)), (2, .ref (K 0 0)), (3, .ref o3), (4, .ref o4), (5, .int (nI (4 * q)))] [] := by
  obtain ⟨hX0, ⟨X, hM0, hR0⟩, hI, hD, ⟨f3, h3⟩, ⟨f4, h4⟩, n3, n4, m3, m4, n34⟩ := id hW
  have hq2 : q < 2 ^ 30 := by omega
  refine aw_aload_n C dL_law_529 rfl ?_
  refine aw_aload_n C dL_law_530 rfl ?_
  refine aw_iload C dL_law_531 rfl ?_
  refine aw_iconst C (v := 1) (by decide) dL_law_533 ?_
  refine aw_iadd C dL_law_534 ?_
  refine aw_eqi (y := nI (4 * q + 1)) (nI_1 _) ?_
  refine aw_sld C hXs hbl (k := 4 * q + 1) (by omega) hLn dL_law_535 ?_
  refine aw_aload_n C dL_law_536 rfl ?_
  refine aw_iload C dL_law_537 rfl ?_
  refine aw_iconst C (v := 2) (by decide) dL_law_539 ?_
  refine aw_iadd C dL_law_540 ?_
  refine aw_eqi (y := nI (4 * q + 2)) (nI_a2 _) ?_
  refine aw_sld C hXs hbl (k := 4 * q + 2) (by omega) hLn dL_law_541 ?_
  refine aw_aload_n C dL_law_542 rfl ?_
  refine aw_iload C dL_law_543 rfl ?_
  refine aw_iconst C (v := 3) (by decide) dL_law_545 ?_
  refine aw_iadd C dL_law_546 ?_
  refine aw_eqi (y := nI (4 * q + 3)) (nI_a3 _) ?_
  refine aw_sld C hXs hbl (k := 4 * q + 3) (by omega) hLn dL_law_547 ?_
  refine aw_aload_n C dL_law_548 rfl ?_
  refine aw_callSX (n := 5) C hE (k_L_field (x := xs (4 * q + 1)) (y := xs (4 * q + 2)) (z := xs (4 * q + 3)) hl9 H9 hX0 hI h3 n3) gL_law_L_field rfl ⟨rfl, rfl⟩ (by decide +kernel) ⟨by decide, by decide⟩ rfl rfl (Nat.le_of_ble_eq_true rfl) dL_law_549 ⟨by show _ ≤ 601024; omega, by show _ ≤ 7293034; omega⟩ (fun _ _ h => h) (fun v μ1 hp => ?_)
  obtain ⟨rfl, hX1, ⟨f1, ho1, hf1⟩, hF1⟩ := hp
  have hM1 := hW.moved hM0 hF1 (Or.inl rfl)
  have hf3 : ∃ f : Nat → Int64, μ1 o3 = some (eJ g 1 f) := ⟨f1, ho1⟩
  have hf4 : ∃ f : Nat → UInt64, μ1 o4 = some (eD g 1 f) := ⟨f4, hF1 _ _ h4 n4 n34.symm⟩
  refine aw_st (st' := [.int (nI (fiC S (xs (4 * q + 1)) (xs (4 * q + 2)) (xs (4 * q + 3))))]) rfl ?_
  refine aw_istore C dL_law_552 (by decide) ?_
  refine aw_aload_n C dL_law_554 rfl ?_
  refine aw_aload_n C dL_law_555 rfl ?_
  refine aw_iload C dL_law_556 rfl ?_
  refine aw_iconst C (v := 1) (by decide) dL_law_558 ?_
  refine aw_iadd C dL_law_559 ?_
  refine aw_eqi (y := nI (4 * q + 1)) (nI_1 _) ?_
  refine aw_sld C hXs hbl (k := 4 * q + 1) (by omega) hLn dL_law_560 ?_
  refine aw_aload_n C dL_law_561 rfl ?_
  refine aw_iload C dL_law_562 rfl ?_
  refine aw_iconst C (v := 2) (by decide) dL_law_564 ?_
  refine aw_iadd C dL_law_565 ?_
  refine aw_eqi (y := nI (4 * q + 2)) (nI_a2 _) ?_
  refine aw_sld C hXs hbl (k := 4 * q + 2) (by omega) hLn dL_law_566 ?_
  refine aw_aload_n C dL_law_567 rfl ?_
  refine aw_iload C dL_law_568 rfl ?_
  refine aw_iconst C (v := 3) (by decide) dL_law_570 ?_
  refine aw_iadd C dL_law_571 ?_
  refine aw_eqi (y := nI (4 * q + 3)) (nI_a3 _) ?_
  refine aw_sld C hXs hbl (k := 4 * q + 3) (by omega) hLn dL_law_572 ?_
  refine aw_callV (n := 3) C hE (ci := 9) (q := (RX7, TX7, 22)) (k_X7_field (x := xs (4 * q + 1)) (y := xs (4 * q + 2)) (z := xs (4 * q + 3)) H9.B hM1 hI hR0) gL_law_X7_field rfl ⟨rfl, rfl⟩ (by decide +kernel) ⟨by decide, by decide⟩ rfl rfl hM1.mo rfl (Nat.le_of_ble_eq_true rfl) dL_law_573 ⟨by show _ ≤ 601024; omega, by show _ ≤ 7293034; omega⟩ (fun v μ2 hp => ?_)
  obtain ⟨⟨r, rfl, hr⟩, ⟨X2, hM2, hR2, hth2⟩, hF2⟩ := hp
  have hW2 : LwI g e0 L K (if fiC S (xs (4 * q + 1)) (xs (4 * q + 2)) (xs (4 * q + 3)) = 0 then (fiS S (xs (4 * q + 1)) (xs (4 * q + 2)) (xs (4 * q + 3))) else S) o3 o4 (q + 1) μ2 := hW.step (ifn ⟨rfl, rfl⟩) (ifI (fun h => Iv_fiS hI h) hI) hX1 hf3 hf4 hM2 (hR2.up (by omega)) hF2
  have ho2 := hF2 _ _ ho1 m3
  refine aw_st (st' := [.int r]) rfl ?_
  refine aw_istore C dL_law_576 (by decide) ?_
  refine aw_aload_n C dL_law_578 rfl ?_
  refine aw_callV (n := 0) C hE (ci := 9) (q := (RX7, TX7, 22)) (k_X7_thrown H9.B hM2) gL_law_X7_thrown rfl ⟨rfl, rfl⟩ (by decide +kernel) ⟨by decide, by decide⟩ rfl rfl hM2.mo rfl (Nat.le_of_ble_eq_true rfl) dL_law_579 ⟨by show _ ≤ 601024; omega, by show _ ≤ 7293034; omega⟩ (fun v μ3 hp => ?_)
  obtain ⟨rfl, hm9⟩ := hp
  replace hm9 := hm9.symm
  subst hm9
  refine aw_st (st' := [.int X2.th]) rfl ?_
  refine aw_eqi (y := nI (fiC S (xs (4 * q + 1)) (xs (4 * q + 2)) (xs (4 * q + 3)))) hth2 ?_
  refine aw_iload C dL_law_582 rfl ?_
  refine aw_icmp_eq C (tgt := 589) dL_law_584 (by decide) (fun _ => ?_) (fun c9 => absurd rfl c9)
  refine aw_iload C dL_law_589 rfl ?_
  refine aw_if_ne C (tgt := 606) dL_law_591 (by decide) (fun c_591 => ?_) (fun c_591 => ?_)
  · refine aw_goto C (tgt := 1778) dL_law_606 (by decide) ?_
    refine aw_iinc C dL_law_1778 rfl (by decide) ?_
    refine aw_goto C (tgt := 28) dL_law_1781 (by decide) ?_
    refine aw_widen (n := 100 + 640 * (q + 1)) (k := 1000 + 4300 * (q + 1)) (by omega) (by omega) ?_
    refine aw_lv (lv' := [(0, .ref b0), (1, .ref (L 0 0)), (2, .ref (K 0 0)), (3, .ref o3), (4, .ref o4), (5, .int (nI (4 * (q + 1))))]) ⟨rfl, rfl, rfl, rfl, rfl, by rw [show 4 * (q + 1) = 4 * q + 4 by omega, ← nI_i4]; rfl, trivial⟩ ?_
    exact nx K (if fiC S (xs (4 * q + 1)) (xs (4 * q + 2)) (xs (4 * q + 3)) = 0 then (fiS S (xs (4 * q + 1)) (xs (4 * q + 2)) (xs (4 * q + 3))) else S) _ rfl hW2
  · have hc0 : fiC S (xs (4 * q + 1)) (xs (4 * q + 2)) (xs (4 * q + 3)) = 0 := nI_inj (b := 0) lt_fi (by decide) c_591
    refine aw_aload_n C dL_law_594 rfl ?_
    refine aw_iconst C (v := 0) (by decide) dL_law_595 ?_
    refine aw_laldE C ho2 (by decide : (0 : Int32) = nI 0) ⟨by decide, by decide⟩ rfl dL_law_596 ?_
    refine aw_iload C dL_law_597 rfl ?_
    refine aw_i2l C dL_law_599 ?_
    refine aw_lcmp C dL_law_600 ?_
    refine aw_eqi (y := 0) (by rw [hf1 hc0, hr hc0]; exact lg_self _) ?_
    refine aw_if_eq C (tgt := 606) dL_law_601 (by decide) (fun _ => ?_) (fun c9 => absurd (by decide) c9)
    refine aw_goto C (tgt := 1778) dL_law_606 (by decide) ?_
    refine aw_iinc C dL_law_1778 rfl (by decide) ?_
    refine aw_goto C (tgt := 28) dL_law_1781 (by decide) ?_
    refine aw_widen (n := 100 + 640 * (q + 1)) (k := 1000 + 4300 * (q + 1)) (by omega) (by omega) ?_
    refine aw_lv (lv' := [(0, .ref b0), (1, .ref (L 0 0)), (2, .ref (K 0 0)), (3, .ref o3), (4, .ref o4), (5, .int (nI (4 * (q + 1))))]) ⟨rfl, rfl, rfl, rfl, rfl, by rw [show 4 * (q + 1) = 4 * q + 4 by omega, ← nI_i4]; rfl, trivial⟩ ?_
    exact nx K (if fiC S (xs (4 * q + 1)) (xs (4 * q + 2)) (xs (4 * q + 3)) = 0 then (fiS S (xs (4 * q + 1)) (xs (4 * q + 2)) (xs (4 * q + 3))) else S) _ rfl hW2
set_option maxRecDepth 100000 in
set_option maxHeartbeats 4000000 in
theorem lc_6 {p : Program} {l : Launch} {e : Env} {s : State} {m : MethodId} {below : List Frame} {meth : Method} {c : Code} {Q : State → Prop} {D : va_G} {g : Nat → ClassId} {b0 Ln : Nat} {xs : Nat → Int32} {e0 o3 o4 q : Nat} {L K : Nat → Nat → Nat} {S : SS} {μ : mu} (hl9 : l.stackTraces = false) (H9 : LB s) (bl : BL s g e0) (C : Cx p s m #[Value.ref b0] meth c code RL 9 wsL_law ret s.heap.size D (tyL g)) (hE : EN s s) (hXs : va_X b0 Ln xs s s.heap) (hbl : b0 < s.heap.size) (hLn : Ln ≤ 2048) (hq : 4 * q + 4 ≤ Ln) (hW : LwI g e0 L K S o3 o4 q μ) (nx : ∀ (K' : Nat → Nat → Nat) (S' : SS) (μ' : mu), K' 0 0 = K 0 0 → LwI g e0 L K' S' o3 o4 (q + 1) μ' → Aw p l e room_1 s m #[Value.ref b0] below meth c Q s.heap.size D 9 μ' (100 + 640 * (q + 1)) (1000 + 4300 * (q + 1)) 28 [(0, .ref b0), (1, .ref (L 0 0)), (2, .ref (K 0 0)), (3, .ref o3), (4, .ref o4), (5, .int (nI (4 * (q + 1))))] []) : Aw p l e room_1 s m #[Value.ref b0] below meth c Q s.heap.size D 9 μ (100 + 640 * q) (1000 + 4300 * q) 609 [(0, .ref b0), (1, .ref (L 0 0)), (2, .ref (K 0 0)), (3, .ref o3), (4, .ref o4), (5, .int (nI (4 * q)))] [] := by
  obtain ⟨hX0, ⟨X, hM0, hR0⟩, hI, hD, ⟨f3, h3⟩, ⟨f4, h4⟩, n3, n4, m3, m4, n34⟩ := id hW
  have hq2 : q < 2 ^ 30 := by omega
  refine aw_aload_n C dL_law_609 rfl ?_
  refine aw_aload_n C dL_law_610 rfl ?_
  refine aw_iload C dL_law_611 rfl ?_
  refine aw_iconst C (v := 1) (by decide) dL_law_613 ?_
  refine aw_iadd C dL_law_614 ?_
  refine aw_eqi (y := nI (4 * q + 1)) (nI_1 _) ?_
  refine aw_sld C hXs hbl (k := 4 * q + 1) (by omega) hLn dL_law_615 ?_
  refine aw_aload_n C dL_law_616 rfl ?_
  refine aw_callSX (n := 3) C hE (k_L_wind (y := xs (4 * q + 1)) hl9 H9 hX0 hI h3 n3) gL_law_L_wind rfl ⟨rfl, rfl⟩ (by decide +kernel) ⟨by decide, by decide⟩ rfl rfl (Nat.le_of_ble_eq_true rfl) dL_law_617 ⟨by show _ ≤ 601024; omega, by show _ ≤ 7293034; omega⟩ (fun _ _ h => h) (fun v μ1 hp => ?_)
  obtain ⟨rfl, hX1, ⟨f1, ho1, hf1⟩, hF1⟩ := hp
  have hM1 := hW.moved hM0 hF1 (Or.inl rfl)
  have hf3 : ∃ f : Nat → Int64, μ1 o3 = some (eJ g 1 f) := ⟨f1, ho1⟩
  have hf4 : ∃ f : Nat → UInt64, μ1 o4 = some (eD g 1 f) := ⟨f4, hF1 _ _ h4 n4 n34.symm⟩
  refine aw_st (st' := [.int (nI (wiC (xs (4 * q + 1))))]) rfl ?_
  refine aw_istore C dL_law_620 (by decide) ?_
  refine aw_aload_n C dL_law_622 rfl ?_
  refine aw_aload_n C dL_law_623 rfl ?_
  refine aw_iload C dL_law_624 rfl ?_
  refine aw_iconst C (v := 1) (by decide) dL_law_626 ?_
  refine aw_iadd C dL_law_627 ?_
  refine aw_eqi (y := nI (4 * q + 1)) (nI_1 _) ?_
  refine aw_sld C hXs hbl (k := 4 * q + 1) (by omega) hLn dL_law_628 ?_
  refine aw_callV (n := 1) C hE (ci := 9) (q := (RX7, TX7, 22)) (k_X7_wind (y := xs (4 * q + 1)) H9.B hM1 hI hR0) gL_law_X7_wind rfl ⟨rfl, rfl⟩ (by decide +kernel) ⟨by decide, by decide⟩ rfl rfl hM1.mo rfl (Nat.le_of_ble_eq_true rfl) dL_law_629 ⟨by show _ ≤ 601024; omega, by show _ ≤ 7293034; omega⟩ (fun v μ2 hp => ?_)
  obtain ⟨⟨r, rfl, hr⟩, ⟨X2, hM2, hR2, hth2⟩, hF2⟩ := hp
  have hW2 : LwI g e0 L K (if wiC (xs (4 * q + 1)) = 0 then (wiS S (xs (4 * q + 1))) else S) o3 o4 (q + 1) μ2 := hW.step (ifn ⟨rfl, rfl⟩) (ifI (fun _ => Iv_wiS hI _) hI) hX1 hf3 hf4 hM2 (hR2.up (by omega)) hF2
  have ho2 := hF2 _ _ ho1 m3
  refine aw_st (st' := [.int r]) rfl ?_
  refine aw_istore C dL_law_632 (by decide) ?_
  refine aw_aload_n C dL_law_634 rfl ?_
  refine aw_callV (n := 0) C hE (ci := 9) (q := (RX7, TX7, 22)) (k_X7_thrown H9.B hM2) gL_law_X7_thrown rfl ⟨rfl, rfl⟩ (by decide +kernel) ⟨by decide, by decide⟩ rfl rfl hM2.mo rfl (Nat.le_of_ble_eq_true rfl) dL_law_635 ⟨by show _ ≤ 601024; omega, by show _ ≤ 7293034; omega⟩ (fun v μ3 hp => ?_)
  obtain ⟨rfl, hm9⟩ := hp
  replace hm9 := hm9.symm
  subst hm9
  refine aw_st (st' := [.int X2.th]) rfl ?_
  refine aw_eqi (y := nI (wiC (xs (4 * q + 1)))) hth2 ?_
  refine aw_iload C dL_law_638 rfl ?_
  refine aw_icmp_eq C (tgt := 645) dL_law_640 (by decide) (fun _ => ?_) (fun c9 => absurd rfl c9)
  refine aw_iload C dL_law_645 rfl ?_
  refine aw_if_ne C (tgt := 662) dL_law_647 (by decide) (fun c_647 => ?_) (fun c_647 => ?_)
  · refine aw_goto C (tgt := 1778) dL_law_662 (by decide) ?_
    refine aw_iinc C dL_law_1778 rfl (by decide) ?_
    refine aw_goto C (tgt := 28) dL_law_1781 (by decide) ?_
    refine aw_widen (n := 100 + 640 * (q + 1)) (k := 1000 + 4300 * (q + 1)) (by omega) (by omega) ?_
    refine aw_lv (lv' := [(0, .ref b0), (1, .ref (L 0 0)), (2, .ref (K 0 0)), (3, .ref o3), (4, .ref o4), (5, .int (nI (4 * (q + 1))))]) ⟨rfl, rfl, rfl, rfl, rfl, by rw [show 4 * (q + 1) = 4 * q + 4 by omega, ← nI_i4]; rfl, trivial⟩ ?_
    exact nx K (if wiC (xs (4 * q + 1)) = 0 then (wiS S (xs (4 * q + 1))) else S) _ rfl hW2
  · have hc0 : wiC (xs (4 * q + 1)) = 0 := nI_inj (b := 0) lt_wi (by decide) c_647
    refine aw_aload_n C dL_law_650 rfl ?_
    refine aw_iconst C (v := 0) (by decide) dL_law_651 ?_
    refine aw_laldE C ho2 (by decide : (0 : Int32) = nI 0) ⟨by decide, by decide⟩ rfl dL_law_652 ?_
    refine aw_iload C dL_law_653 rfl ?_
    refine aw_i2l C dL_law_655 ?_
    refine aw_lcmp C dL_law_656 ?_
    refine aw_eqi (y := 0) (by rw [hf1 hc0, hr hc0]; exact lg_self _) ?_
    refine aw_if_eq C (tgt := 662) dL_law_657 (by decide) (fun _ => ?_) (fun c9 => absurd (by decide) c9)
    refine aw_goto C (tgt := 1778) dL_law_662 (by decide) ?_
    refine aw_iinc C dL_law_1778 rfl (by decide) ?_
    refine aw_goto C (tgt := 28) dL_law_1781 (by decide) ?_
    refine aw_widen (n := 100 + 640 * (q + 1)) (k := 1000 + 4300 * (q + 1)) (by omega) (by omega) ?_
    refine aw_lv (lv' := [(0, .ref b0), (1, .ref (L 0 0)), (2, .ref (K 0 0)), (3, .ref o3), (4, .ref o4), (5, .int (nI (4 * (q + 1))))]) ⟨rfl, rfl, rfl, rfl, rfl, by rw [show 4 * (q + 1) = 4 * q + 4 by omega, ← nI_i4]; rfl, trivial⟩ ?_
    exact nx K (if wiC (xs (4 * q + 1)) = 0 then (wiS S (xs (4 * q + 1))) else S) _ rfl hW2
