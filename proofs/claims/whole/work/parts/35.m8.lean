/-! ===== ArrowFieldModel: the digest ===== -/
section KM8
variable {l : Launch} {s0 : State} {D : va_G} {g : Nat → ClassId}
set_option maxRecDepth 100000 in
set_option maxHeartbeats 4000000 in
theorem k_X7_digest (B : Base s0) {μ : mu} {K : Nat → Nat → Nat} {e0 : Nat} {S : SS} {X : XS} (hM : RM g K e0 S X μ) (hI : Iv S) {b : Nat} (hR : MR S X b) (hb : b < 2 ^ 30) : Ct l yX7_digest wsX7_digest (rmOf 6 98 982 230) s0 D (tyL g) [.ref (K 0 0)] μ 98 982 (fun v9 μ' => (∃ r : Int64, v9 = some (.long r) ∧ ((0 : Nat) = 0 → r = dgF S)) ∧ PMx g K e0 S S (0 : Nat) b μ μ') := by
  refine Ct.of (cc := cX7_digest) (own := RX7) (maxL := 3) (ret := (some .long)) (by decide) rfl rfl (Nat.le_of_ble_eq_true rfl) ?_
  intro p e s m args below meth c Q C hE hnm hQe
  have in_RX7 : ∀ w ∈ u_ws RX7 TX7 22, w ∈ wsX7_digest := by decide +kernel
  have in_RX6 : ∀ w ∈ u_ws RX6 TX6 5, w ∈ wsX7_digest := by decide +kernel
  have f39 : FL wsX7_digest RX7 39 9 "ArrowFieldModel" RX7 TX7 22 0 := ⟨in_RX7, rfl, by decide, by decide +kernel, Or.inl rfl⟩
  have k291 : Cond.constantLong RX7 291 (58318) ∈ wsX7_digest := by decide +kernel
  have f285 : FL wsX7_digest RX7 285 9 "ArrowFieldModel" RX7 TX7 22 21 := ⟨in_RX7, rfl, by decide, by decide +kernel, Or.inl rfl⟩
  have f26 : FL wsX7_digest RX7 26 9 "ArrowFieldModel" RX7 TX7 22 12 := ⟨in_RX7, rfl, by decide, by decide +kernel, Or.inl rfl⟩
  have f10 : FL wsX7_digest RX7 10 9 "ArrowFieldModel" RX7 TX7 22 1 := ⟨in_RX7, rfl, by decide, by decide +kernel, Or.inl rfl⟩
  have f16 : FL wsX7_digest RX7 16 9 "ArrowFieldModel" RX7 TX7 22 2 := ⟨in_RX7, rfl, by decide, by decide +kernel, Or.inl rfl⟩
  have k202 : Cond.constantDouble RX7 202 (4661225614328463360) ∈ wsX7_digest := by decide +kernel
  have f166 : FN s0 wsX7_digest RX7 166 8 "ArrowFieldModel$Quiver" RX6 TX6 5 3 "ArrowFieldModel" := ⟨in_RX6, rfl, by decide, B.fnRX7_166, rfl⟩
  have f177 : FN s0 wsX7_digest RX7 177 8 "ArrowFieldModel$Quiver" RX6 TX6 5 4 "ArrowFieldModel" := ⟨in_RX6, rfl, by decide, B.fnRX7_177, rfl⟩
  have k296 : Cond.constantDouble RX7 296 (4652218415073722368) ∈ wsX7_digest := by decide +kernel
  have hA6 := hI.A6
  have hQ6 := hI.Q6
  refine aw_aload_n C dX7_digest_0 rfl ?_
  refine aw_iconst C (v := 0) (by decide) dX7_digest_1 ?_
  refine aw_putE C f39 ftX7 (ty := .int) (by decide +kernel) rfl rfl hM.mo (Nat.le_of_ble_eq_true rfl) (fs' := [.int 0, .ref (K 1 0), .ref (K 2 0), .int (S.c 4), .int (S.c 5), .int (S.c 6), .int (S.c 9), .int (S.c 10), .int (S.c 8), .int (S.c 13), .int (S.c 7), .int (S.c 11), .int (S.c 14), .ref (K 3 0), .ref (K 4 0), .ref (K 5 0), .double X.ne, .int (nI X.T), .int X.il, .double X.h, .double X.v, .long X.sm]) rfl dX7_digest_2 ?_
  refine aw_re (P := fun μ1 => RM g K e0 S (X.wth 0) μ1 ∧ FrM K S.nA S.nQ μ μ1) ⟨hM.setX (X.wth 0) rfl rfl rfl, (FrM.rf : FrM K S.nA S.nQ μ μ).mpw (m0 (by decide))⟩ (fun μ1 hq => ?_)
  obtain ⟨hM1, hF1⟩ := hq
  refine aw_aload_n C dX7_digest_5 rfl ?_
  refine aw_ldc2 C k291 dX7_digest_6 ?_
  refine aw_putE C f285 ftX7 (ty := .long) (by decide +kernel) rfl rfl hM1.mo (Nat.le_of_ble_eq_true rfl) (fs' := [.int 0, .ref (K 1 0), .ref (K 2 0), .int (S.c 4), .int (S.c 5), .int (S.c 6), .int (S.c 9), .int (S.c 10), .int (S.c 8), .int (S.c 13), .int (S.c 7), .int (S.c 11), .int (S.c 14), .ref (K 3 0), .ref (K 4 0), .ref (K 5 0), .double X.ne, .int (nI X.T), .int X.il, .double X.h, .double X.v, .long 58318]) rfl dX7_digest_9 ?_
  refine aw_re (P := fun μ1 => RM g K e0 S ((X.wth 0).wsm 58318) μ1 ∧ FrM K S.nA S.nQ μ μ1) ⟨hM1.setX ((X.wth 0).wsm 58318) rfl rfl rfl, hF1.mpw (m0 (by decide))⟩ (fun μ2 hq => ?_)
  obtain ⟨hM2, hF2⟩ := hq
  refine aw_iconst C (v := 0) (by decide) dX7_digest_12 ?_
  refine aw_istore_n C dX7_digest_13 (by decide) ?_
  refine aw_lv (lv' := [(0, .ref (K 0 0)), (1, .int 0)]) ⟨rfl, rfl, trivial⟩ ?_
  have loop14 : ∀ (n : Nat) (i : Nat) (xi : Int32) (d : Int64) (xh : UInt64) (xv : UInt64) (μk : mu), 12 - i = n → xi = nI i → i ≤ 12 → d = dgA 58318 (fun k => (mnF S k).toInt64) i → RM g K e0 S ((((X.wth 0).wh xh).wv xv).wsm d) μk → FrM K S.nA S.nQ μ μk → Aw p l e (rmOf 6 98 982 230) s m args below meth c Q s0.heap.size D 3 μk (2 * i) (16 * i) 14 [(0, .ref (K 0 0)), (1, .int xi)] [] := by
    intro n
    induction n using Nat.strongRecOn with
    | _ n ih =>
      intro i xi d xh xv μk hn hx hk hd hMl hFl
      refine aw_iload_n C dX7_digest_14 rfl ?_
      refine aw_bipush C (v := 12) (by decide) dX7_digest_15 ?_
      refine aw_icmp_ge C (tgt := 36) dX7_digest_17 (by decide) (fun c_17 => ?_) (fun c_17 => ?_)
      · refine aw_iconst C (v := 0) (by decide) dX7_digest_36 ?_
        refine aw_istore_n C dX7_digest_37 (by decide) ?_
        have e8 : i = 12 := by have := ge_of (n := 12) hx (by omega) (by omega) c_17; omega
        refine aw_widen (n := 24) (k := 192) (by omega) (by omega) ?_
        refine aw_lv (lv' := [(0, .ref (K 0 0)), (1, .int 0)]) ⟨rfl, rfl, trivial⟩ ?_
        have loop38 : ∀ (n : Nat) (i : Nat) (xi : Int32) (d : Int64) (xh : UInt64) (xv : UInt64) (μk : mu), 8 - i = n → xi = nI i → i ≤ 8 → d = dgA (dgA 58318 (fun k => (mnF S k).toInt64) 12) (fun k => (omF S k).toInt64) i → RM g K e0 S ((((X.wth 0).wh xh).wv xv).wsm d) μk → FrM K S.nA S.nQ μ μk → Aw p l e (rmOf 6 98 982 230) s m args below meth c Q s0.heap.size D 3 μk (24 + i) (192 + 8 * i) 38 [(0, .ref (K 0 0)), (1, .int xi)] [] := by
          intro n
          induction n using Nat.strongRecOn with
          | _ n ih =>
            intro i xi d xh xv μk hn hx hk hd hMl hFl
            refine aw_iload_n C dX7_digest_38 rfl ?_
            refine aw_bipush C (v := 8) (by decide) dX7_digest_39 ?_
            refine aw_icmp_ge C (tgt := 60) dX7_digest_41 (by decide) (fun c_41 => ?_) (fun c_41 => ?_)
            · refine aw_aload_n C dX7_digest_60 rfl ?_
              refine aw_aload_n C dX7_digest_61 rfl ?_
              refine aw_get C f26 hMl.mo rfl dX7_digest_62 ?_
              refine aw_i2l C dX7_digest_65 ?_
              refine aw_callV (n := 1) C hE (ci := 9) (q := (RX7, TX7, 22)) (k_X7_add (d := (S.c 14).toInt64) B hMl) gX7_digest_X7_add rfl ⟨rfl, rfl⟩ (by decide +kernel) ⟨by decide, by decide⟩ rfl rfl hMl.mo rfl (Nat.le_of_ble_eq_true rfl) dX7_digest_66 ⟨by show _ ≤ 98; omega, by show _ ≤ 982; omega⟩ (fun v μ' hp => ?_)
              obtain ⟨rfl, hM3, hG3⟩ := hp
              have hF3 : FrM K S.nA S.nQ μ _ := hFl.tr hG3
              refine aw_st (st' := []) rfl ?_
              refine aw_re (P := fun μ1 => RM g K e0 S ((((X.wth 0).wh xh).wv xv).wsm (d * 31 + ((S.c 14).toInt64))) μ1 ∧ FrM K S.nA S.nQ μ μ1) ⟨hM3, hF3⟩ (fun μ4 hq => ?_)
              obtain ⟨hM4, hF4⟩ := hq
              refine aw_iconst C (v := 0) (by decide) dX7_digest_69 ?_
              refine aw_istore_n C dX7_digest_70 (by decide) ?_
              have e8 : i = 8 := by have := ge_of (n := 8) hx (by omega) (by omega) c_41; omega
              refine aw_widen (n := 32) (k := 256) (by omega) (by omega) ?_
              refine aw_lv (lv' := [(0, .ref (K 0 0)), (1, .int 0)]) ⟨rfl, rfl, trivial⟩ ?_
              have loop71 : ∀ (n : Nat) (i : Nat) (xi : Int32) (d : Int64) (xh : UInt64) (xv : UInt64) (μk : mu), S.nA - i = n → xi = nI i → i ≤ S.nA → d = dgL (dgR S) ((dgA (dgA 58318 (fun k => (mnF S k).toInt64) 12) (fun k => (omF S k).toInt64) 8) * 31 + (S.c 14).toInt64) i → RM g K e0 S ((((X.wth 0).wh xh).wv xv).wsm d) μk → FrM K S.nA S.nQ μ μk → Aw p l e (rmOf 6 98 982 230) s m args below meth c Q s0.heap.size D 3 μk (32 + 11 * i) (256 + 121 * i) 71 [(0, .ref (K 0 0)), (1, .int xi)] [] := by
                intro n
                induction n using Nat.strongRecOn with
                | _ n ih =>
                  intro i xi d xh xv μk hn hx hk hd hMl hFl
                  refine aw_iload_n C dX7_digest_71 rfl ?_
                  refine aw_aload_n C dX7_digest_72 rfl ?_
                  refine aw_get C f10 hMl.mo rfl dX7_digest_73 ?_
                  refine aw_callV (n := 0) C hE (ci := 1) (q := (RJx4a65c, TJx4a65c, 3)) (k_Jx4a65c_size_8abf5 B hMl.aL) gX7_digest_Jx4a65c_size_8abf5 rfl ⟨rfl, rfl⟩ (by decide +kernel) ⟨by decide, by decide⟩ rfl rfl hMl.aL rfl (Nat.le_of_ble_eq_true rfl) dX7_digest_76 ⟨by show _ ≤ 98; omega, by show _ ≤ 982; omega⟩ (fun v μ' hp => ?_)
                  obtain ⟨rfl, hm9⟩ := hp
                  replace hm9 := hm9.symm
                  subst hm9
                  refine aw_st (st' := [.int (nI S.nA), .int xi]) rfl ?_
                  refine aw_icmp_ge C (tgt := 156) dX7_digest_79 (by decide) (fun c_79 => ?_) (fun c_79 => ?_)
                  · refine aw_iconst C (v := 0) (by decide) dX7_digest_156 ?_
                    refine aw_istore_n C dX7_digest_157 (by decide) ?_
                    have e8 : i = S.nA := by have := ge_of (n := S.nA) hx (by omega) (by omega) c_79; omega
                    refine aw_widen (n := 98) (k := 982) (by omega) (by omega) ?_
                    refine aw_lv (lv' := [(0, .ref (K 0 0)), (1, .int 0)]) ⟨rfl, rfl, trivial⟩ ?_
                    have loop158 : ∀ (n : Nat) (i : Nat) (xi : Int32) (d : Int64) (xh : UInt64) (xv : UInt64) (μk : mu), S.nQ - i = n → xi = nI i → i ≤ S.nQ → d = dgL (dgQ S) (dgL (dgR S) ((dgA (dgA 58318 (fun k => (mnF S k).toInt64) 12) (fun k => (omF S k).toInt64) 8) * 31 + (S.c 14).toInt64) S.nA) i → RM g K e0 S ((((X.wth 0).wh xh).wv xv).wsm d) μk → FrM K S.nA S.nQ μ μk → Aw p l e (rmOf 6 98 982 230) s m args below meth c Q s0.heap.size D 3 μk 98 982 158 [(0, .ref (K 0 0)), (1, .int xi)] [] := by
                      intro n
                      induction n using Nat.strongRecOn with
                      | _ n ih =>
                        intro i xi d xh xv μk hn hx hk hd hMl hFl
                        refine aw_iload_n C dX7_digest_158 rfl ?_
                        refine aw_aload_n C dX7_digest_159 rfl ?_
                        refine aw_get C f16 hMl.mo rfl dX7_digest_160 ?_
                        refine aw_callV (n := 0) C hE (ci := 1) (q := (RJx4a65c, TJx4a65c, 3)) (k_Jx4a65c_size_8abf5 B hMl.qL) gX7_digest_Jx4a65c_size_8abf5 rfl ⟨rfl, rfl⟩ (by decide +kernel) ⟨by decide, by decide⟩ rfl rfl hMl.qL rfl (Nat.le_of_ble_eq_true rfl) dX7_digest_163 ⟨by decide, by decide⟩ (fun v μ' hp => ?_)
                        obtain ⟨rfl, hm9⟩ := hp
                        replace hm9 := hm9.symm
                        subst hm9
                        refine aw_st (st' := [.int (nI S.nQ), .int xi]) rfl ?_
                        refine aw_icmp_ge C (tgt := 264) dX7_digest_166 (by decide) (fun c_166 => ?_) (fun c_166 => ?_)
                        · refine aw_aload_n C dX7_digest_264 rfl ?_
                          refine aw_get C f285 hMl.mo rfl dX7_digest_265 ?_
                          refine aw_lret C hQe ?_ (by omega) (by omega) dX7_digest_268
                          have e8 : i = S.nQ := by have := ge_of (n := S.nQ) hx (by omega) (by omega) c_166; omega
                          exact ⟨⟨_, rfl, fun _ => by rw [hd, e8]; rfl⟩, ⟨_, hMl, hR, rfl⟩, hFl⟩
                        · have hi : i < S.nQ := lt_of (n := S.nQ) hx (by omega) (by omega) c_166
                          subst hx
                          refine aw_iconst C (v := 0) (by decide) dX7_digest_169 ?_
                          refine aw_istore_n C dX7_digest_170 (by decide) ?_
                          refine aw_lv (lv' := [(0, .ref (K 0 0)), (1, .int (nI i)), (2, .int 0)]) ⟨rfl, rfl, rfl, trivial⟩ ?_
                          have loop171 : ∀ (n2 : Nat) (w : Nat) (xw : Int32) (d2 : Int64) (μj : mu), 7 - w = n2 → xw = nI w → w ≤ 7 → d2 = dgA d (fun k => (oqF S i k).toInt64) w → RM g K e0 S ((((X.wth 0).wh xh).wv xv).wsm d2) μj → FrM K S.nA S.nQ μ μj → Aw p l e (rmOf 6 98 982 230) s m args below meth c Q s0.heap.size D 3 μj 98 982 171 [(0, .ref (K 0 0)), (1, .int (nI i)), (2, .int xw)] [] := by
                            intro n2
                            induction n2 using Nat.strongRecOn with
                            | _ n2 ih2 =>
                              intro w xw d2 μj hn2 hy hk2 hd2 hMj hFj
                              refine aw_iload_n C dX7_digest_171 rfl ?_
                              refine aw_bipush C (v := 7) (by decide) dX7_digest_172 ?_
                              refine aw_icmp_ge C (tgt := 194) dX7_digest_174 (by decide) (fun c_174 => ?_) (fun c_174 => ?_)
                              · refine aw_iconst C (v := 0) (by decide) dX7_digest_194 ?_
                                refine aw_istore_n C dX7_digest_195 (by decide) ?_
                                have e7 : w = 7 := by have := ge_of (n := 7) hy (by omega) (by omega) c_174; omega
                                refine aw_lv (lv' := [(0, .ref (K 0 0)), (1, .int (nI i)), (2, .int 0)]) ⟨rfl, rfl, rfl, trivial⟩ ?_
                                have loop196 : ∀ (n3 : Nat) (w : Nat) (xw : Int32) (d3 : Int64) (μj : mu), 12 - w = n3 → xw = nI w → w ≤ 12 → d3 = dgH S i (dgA d (fun k => (oqF S i k).toInt64) 7) w → RM g K e0 S ((((X.wth 0).wh xh).wv xv).wsm d3) μj → FrM K S.nA S.nQ μ μj → Aw p l e (rmOf 6 98 982 230) s m args below meth c Q s0.heap.size D 3 μj 98 982 196 [(0, .ref (K 0 0)), (1, .int (nI i)), (2, .int xw)] [] := by
                                  intro n3
                                  induction n3 using Nat.strongRecOn with
                                  | _ n3 ih3 =>
                                    intro w xw d3 μj hn3 hy hk2 hd3 hMj hFj
                                    refine aw_iload_n C dX7_digest_196 rfl ?_
                                    refine aw_bipush C (v := 12) (by decide) dX7_digest_197 ?_
                                    refine aw_icmp_ge C (tgt := 258) dX7_digest_199 (by decide) (fun c_199 => ?_) (fun c_199 => ?_)
                                    · have e9 : w = 12 := by have := ge_of (n := 12) hy (by omega) (by omega) c_199; omega
                                      refine aw_iinc C dX7_digest_258 rfl (by decide) ?_
                                      refine aw_goto C (tgt := 158) dX7_digest_261 (by decide) ?_
                                      refine aw_widen (n := 98) (k := 982) (by omega) (by omega) ?_
                                      refine aw_lv (lv' := [(0, .ref (K 0 0)), (1, .int (nI i + Int32.ofInt 1))]) ⟨rfl, rfl, trivial⟩ ?_
                                      exact ih _ (by omega) (i + 1) (nI i + Int32.ofInt 1) d3 xh xv _ rfl (nI_inc i) (by omega) (by rw [dgL_s, ← hd, dgQ, hd3, e9]) hMj hFj
                                    · have hw : w < 12 := lt_of (n := 12) hy (by omega) (by omega) c_199
                                      subst hy
                                      refine aw_aload_n C dX7_digest_202 rfl ?_
                                      refine aw_ldc2d C k202 dX7_digest_203 ?_
                                      refine aw_aload_n C dX7_digest_206 rfl ?_
                                      refine aw_get C f16 hMj.mo rfl dX7_digest_207 ?_
                                      refine aw_iload_n C dX7_digest_210 rfl ?_
                                      refine aw_callV (n := 1) C hE (ci := 1) (q := (RJx4a65c, TJx4a65c, 3)) (k_getQ B hMj hI hi) gX7_digest_Jx4a65c_get_915e3 rfl ⟨rfl, rfl⟩ (by decide +kernel) ⟨by decide, by decide⟩ rfl rfl hMj.qL rfl (Nat.le_of_ble_eq_true rfl) dX7_digest_211 ⟨by decide, by decide⟩ (fun v μ' hp => ?_)
                                      obtain ⟨rfl, hm9⟩ := hp
                                      replace hm9 := hm9.symm
                                      subst hm9
                                      refine aw_st (st' := [.ref (K 9 i), .double 4661225614328463360, .ref (K 0 0)]) rfl ?_
                                      refine aw_cast C (ci := 8) (by decide +kernel) (va_Nw.warmC hE.1 B.caXq) rfl (hMj.xq hi) dX7_digest_214 ?_
                                      refine aw_getN C hE f166 (hMj.xq hi) rfl dX7_digest_217 ?_
                                      refine aw_iload_n C dX7_digest_220 rfl ?_
                                      refine aw_daldE C (hMj.hh hi) rfl ⟨hw, by decide⟩ rfl dX7_digest_221 ?_
                                      refine aw_dmul C (h4_ok hI i w).1 dX7_digest_222 ?_
                                      refine aw_d2l C dX7_digest_223 ?_
                                      refine aw_callV (n := 1) C hE (ci := 9) (q := (RX7, TX7, 22)) (k_X7_add (d := FP.d2l (FP.dmul 4661225614328463360 ((S.H i) w))) B hMj) gX7_digest_X7_add rfl ⟨rfl, rfl⟩ (by decide +kernel) ⟨by decide, by decide⟩ rfl rfl hMj.mo rfl (Nat.le_of_ble_eq_true rfl) dX7_digest_224 ⟨by decide, by decide⟩ (fun v μ' hp => ?_)
                                      obtain ⟨rfl, hM5, hG5⟩ := hp
                                      have hF5 : FrM K S.nA S.nQ μ _ := hFj.tr hG5
                                      refine aw_st (st' := []) rfl ?_
                                      refine aw_re (P := fun μ1 => RM g K e0 S ((((X.wth 0).wh xh).wv xv).wsm (d3 * 31 + (FP.d2l (FP.dmul 4661225614328463360 ((S.H i) w))))) μ1 ∧ FrM K S.nA S.nQ μ μ1) ⟨hM5, hF5⟩ (fun μ6 hq => ?_)
                                      obtain ⟨hM6, hF6⟩ := hq
                                      refine aw_aload_n C dX7_digest_227 rfl ?_
                                      refine aw_ldc2d C k202 dX7_digest_228 ?_
                                      refine aw_aload_n C dX7_digest_231 rfl ?_
                                      refine aw_get C f16 hM6.mo rfl dX7_digest_232 ?_
                                      refine aw_iload_n C dX7_digest_235 rfl ?_
                                      refine aw_callV (n := 1) C hE (ci := 1) (q := (RJx4a65c, TJx4a65c, 3)) (k_getQ B hM6 hI hi) gX7_digest_Jx4a65c_get_915e3 rfl ⟨rfl, rfl⟩ (by decide +kernel) ⟨by decide, by decide⟩ rfl rfl hM6.qL rfl (Nat.le_of_ble_eq_true rfl) dX7_digest_236 ⟨by decide, by decide⟩ (fun v μ' hp => ?_)
                                      obtain ⟨rfl, hm9⟩ := hp
                                      replace hm9 := hm9.symm
                                      subst hm9
                                      refine aw_st (st' := [.ref (K 9 i), .double 4661225614328463360, .ref (K 0 0)]) rfl ?_
                                      refine aw_cast C (ci := 8) (by decide +kernel) (va_Nw.warmC hE.1 B.caXq) rfl (hM6.xq hi) dX7_digest_239 ?_
                                      refine aw_getN C hE f177 (hM6.xq hi) rfl dX7_digest_242 ?_
                                      refine aw_iload_n C dX7_digest_245 rfl ?_
                                      refine aw_daldE C (hM6.vv hi) rfl ⟨hw, by decide⟩ rfl dX7_digest_246 ?_
                                      refine aw_dmul C (h4_ok hI i w).2 dX7_digest_247 ?_
                                      refine aw_d2l C dX7_digest_248 ?_
                                      refine aw_callV (n := 1) C hE (ci := 9) (q := (RX7, TX7, 22)) (k_X7_add (d := FP.d2l (FP.dmul 4661225614328463360 ((S.V i) w))) B hM6) gX7_digest_X7_add rfl ⟨rfl, rfl⟩ (by decide +kernel) ⟨by decide, by decide⟩ rfl rfl hM6.mo rfl (Nat.le_of_ble_eq_true rfl) dX7_digest_249 ⟨by decide, by decide⟩ (fun v μ' hp => ?_)
                                      obtain ⟨rfl, hM7, hG7⟩ := hp
                                      have hF7 : FrM K S.nA S.nQ μ _ := hF6.tr hG7
                                      refine aw_st (st' := []) rfl ?_
                                      refine aw_re (P := fun μ1 => RM g K e0 S ((((X.wth 0).wh xh).wv xv).wsm ((d3 * 31 + (FP.d2l (FP.dmul 4661225614328463360 ((S.H i) w)))) * 31 + (FP.d2l (FP.dmul 4661225614328463360 ((S.V i) w))))) μ1 ∧ FrM K S.nA S.nQ μ μ1) ⟨hM7, hF7⟩ (fun μ8 hq => ?_)
                                      obtain ⟨hM8, hF8⟩ := hq
                                      refine aw_iinc C dX7_digest_252 rfl (by decide) ?_
                                      refine aw_goto C (tgt := 196) dX7_digest_255 (by decide) ?_
                                      refine aw_widen (n := 98) (k := 982) (by omega) (by omega) ?_
                                      refine aw_lv (lv' := [(0, .ref (K 0 0)), (1, .int (nI i)), (2, .int (nI w + Int32.ofInt 1))]) ⟨rfl, rfl, rfl, trivial⟩ ?_
                                      exact ih3 _ (by omega) (w + 1) (nI w + Int32.ofInt 1) ((d3 * 31 + (FP.d2l (FP.dmul 4661225614328463360 ((S.H i) w)))) * 31 + (FP.d2l (FP.dmul 4661225614328463360 ((S.V i) w)))) _ rfl (nI_inc w) (by omega) (by rw [dgH_s, ← hd3]) hM8 hF8
                                exact loop196 _ 0 0 d2 _ rfl rfl (by decide) (by rw [hd2, e7, dgH_0]) hMj hFj
                              · have hw : w < 7 := lt_of (n := 7) hy (by omega) (by omega) c_174
                                subst hy
                                refine aw_aload_n C dX7_digest_177 rfl ?_
                                refine aw_aload_n C dX7_digest_178 rfl ?_
                                refine aw_iload_n C dX7_digest_179 rfl ?_
                                refine aw_iload_n C dX7_digest_180 rfl ?_
                                refine aw_callV (n := 2) C hE (ci := 9) (q := (RX7, TX7, 22)) (k_X7_ofQuiverNow (w := w) B hMj hI hi hw) gX7_digest_X7_ofQuiverNow rfl ⟨rfl, rfl⟩ (by decide +kernel) ⟨by decide, by decide⟩ rfl rfl hMj.mo rfl (Nat.le_of_ble_eq_true rfl) dX7_digest_181 ⟨by decide, by decide⟩ (fun v μ' hp => ?_)
                                obtain ⟨rfl, hm9⟩ := hp
                                replace hm9 := hm9.symm
                                subst hm9
                                refine aw_st (st' := [.int (oqF S i w), .ref (K 0 0)]) rfl ?_
                                refine aw_i2l C dX7_digest_184 ?_
                                refine aw_callV (n := 1) C hE (ci := 9) (q := (RX7, TX7, 22)) (k_X7_add (d := (oqF S i w).toInt64) B hMj) gX7_digest_X7_add rfl ⟨rfl, rfl⟩ (by decide +kernel) ⟨by decide, by decide⟩ rfl rfl hMj.mo rfl (Nat.le_of_ble_eq_true rfl) dX7_digest_185 ⟨by decide, by decide⟩ (fun v μ' hp => ?_)
                                obtain ⟨rfl, hM5, hG5⟩ := hp
                                have hF5 : FrM K S.nA S.nQ μ _ := hFj.tr hG5
                                refine aw_st (st' := []) rfl ?_
                                refine aw_re (P := fun μ1 => RM g K e0 S ((((X.wth 0).wh xh).wv xv).wsm (d2 * 31 + ((oqF S i w).toInt64))) μ1 ∧ FrM K S.nA S.nQ μ μ1) ⟨hM5, hF5⟩ (fun μ6 hq => ?_)
                                obtain ⟨hM6, hF6⟩ := hq
                                refine aw_iinc C dX7_digest_188 rfl (by decide) ?_
                                refine aw_goto C (tgt := 171) dX7_digest_191 (by decide) ?_
                                refine aw_widen (n := 98) (k := 982) (by omega) (by omega) ?_
                                refine aw_lv (lv' := [(0, .ref (K 0 0)), (1, .int (nI i)), (2, .int (nI w + Int32.ofInt 1))]) ⟨rfl, rfl, rfl, trivial⟩ ?_
                                exact ih2 _ (by omega) (w + 1) (nI w + Int32.ofInt 1) (d2 * 31 + ((oqF S i w).toInt64)) _ rfl (nI_inc w) (by omega) (by rw [dgA_s, ← hd2]) hM6 hF6
                          exact loop171 _ 0 0 d _ rfl rfl (by decide) rfl hMl hFl
                    exact loop158 _ 0 0 d xh xv _ rfl rfl (Nat.zero_le _) (by rw [hd, e8, dgL_0]) hMl hFl
                  · have hi : i < S.nA := lt_of (n := S.nA) hx (by omega) (by omega) c_79
                    subst hx
                    refine aw_iconst C (v := 0) (by decide) dX7_digest_82 ?_
                    refine aw_istore_n C dX7_digest_83 (by decide) ?_
                    refine aw_lv (lv' := [(0, .ref (K 0 0)), (1, .int (nI i)), (2, .int 0)]) ⟨rfl, rfl, rfl, trivial⟩ ?_
                    have loop84 : ∀ (n2 : Nat) (w : Nat) (xw : Int32) (d2 : Int64) (μj : mu), 11 - w = n2 → xw = nI w → w ≤ 11 → d2 = dgA d (fun k => (oaF S i k).toInt64) w → RM g K e0 S ((((X.wth 0).wh xh).wv xv).wsm d2) μj → FrM K S.nA S.nQ μ μj → Aw p l e (rmOf 6 98 982 230) s m args below meth c Q s0.heap.size D 3 μj (32 + 11 * i + w) (256 + 121 * i + 11 * w) 84 [(0, .ref (K 0 0)), (1, .int (nI i)), (2, .int xw)] [] := by
                      intro n2
                      induction n2 using Nat.strongRecOn with
                      | _ n2 ih2 =>
                        intro w xw d2 μj hn2 hy hk2 hd2 hMj hFj
                        refine aw_iload_n C dX7_digest_84 rfl ?_
                        refine aw_bipush C (v := 11) (by decide) dX7_digest_85 ?_
                        refine aw_icmp_ge C (tgt := 116) dX7_digest_87 (by decide) (fun c_87 => ?_) (fun c_87 => ?_)
                        · have e9 : w = 11 := by have := ge_of (n := 11) hy (by omega) (by omega) c_87; omega
                          subst e9
                          refine aw_widen (n := 32 + 11 * (i + 1)) (k := 256 + 121 * (i + 1)) (by omega) (by omega) ?_
                          refine aw_aload_n C dX7_digest_116 rfl ?_
                          refine aw_ldc2d C k296 dX7_digest_117 ?_
                          refine aw_aload_n C dX7_digest_120 rfl ?_
                          refine aw_aload_n C dX7_digest_121 rfl ?_
                          refine aw_get C f10 hMj.mo rfl dX7_digest_122 ?_
                          refine aw_iload_n C dX7_digest_125 rfl ?_
                          refine aw_callV (n := 1) C hE (ci := 1) (q := (RJx4a65c, TJx4a65c, 3)) (k_getA B hMj hI hi) gX7_digest_Jx4a65c_get_915e3 rfl ⟨rfl, rfl⟩ (by decide +kernel) ⟨by decide, by decide⟩ rfl rfl hMj.aL rfl (Nat.le_of_ble_eq_true rfl) dX7_digest_126 ⟨by show _ ≤ 98; omega, by show _ ≤ 982; omega⟩ (fun v μ' hp => ?_)
                          obtain ⟨rfl, hm9⟩ := hp
                          replace hm9 := hm9.symm
                          subst hm9
                          refine aw_st (st' := [.ref (K 8 i), .ref (K 0 0), .double 4652218415073722368, .ref (K 0 0)]) rfl ?_
                          refine aw_cast C (ci := 7) (by decide +kernel) (va_Nw.warmC hE.1 B.caXa) rfl (hMj.xa hi) dX7_digest_129 ?_
                          refine aw_callV (n := 1) C hE (ci := 9) (q := (RX7, TX7, 22)) (k_X7_speedNow B hMj hI hi) gX7_digest_X7_speedNow rfl ⟨rfl, rfl⟩ (by decide +kernel) ⟨by decide, by decide⟩ rfl rfl hMj.mo rfl (Nat.le_of_ble_eq_true rfl) dX7_digest_132 ⟨by show _ ≤ 98; omega, by show _ ≤ 982; omega⟩ (fun v μ' hp => ?_)
                          obtain ⟨rfl, hm9⟩ := hp
                          replace hm9 := hm9.symm
                          subst hm9
                          refine aw_st (st' := [.double (sdF S i), .double 4652218415073722368, .ref (K 0 0)]) rfl ?_
                          refine aw_dmul C (sd4_ok hI hi) dX7_digest_135 ?_
                          refine aw_d2l C dX7_digest_136 ?_
                          refine aw_callV (n := 1) C hE (ci := 9) (q := (RX7, TX7, 22)) (k_X7_add (d := FP.d2l (FP.dmul 4652218415073722368 (sdF S i))) B hMj) gX7_digest_X7_add rfl ⟨rfl, rfl⟩ (by decide +kernel) ⟨by decide, by decide⟩ rfl rfl hMj.mo rfl (Nat.le_of_ble_eq_true rfl) dX7_digest_137 ⟨by show _ ≤ 98; omega, by show _ ≤ 982; omega⟩ (fun v μ' hp => ?_)
                          obtain ⟨rfl, hM5, hG5⟩ := hp
                          have hF5 : FrM K S.nA S.nQ μ _ := hFj.tr hG5
                          refine aw_st (st' := []) rfl ?_
                          refine aw_re (P := fun μ1 => RM g K e0 S ((((X.wth 0).wh xh).wv xv).wsm (d2 * 31 + (FP.d2l (FP.dmul 4652218415073722368 (sdF S i))))) μ1 ∧ FrM K S.nA S.nQ μ μ1) ⟨hM5, hF5⟩ (fun μ6 hq => ?_)
                          obtain ⟨hM6, hF6⟩ := hq
                          refine aw_aload_n C dX7_digest_140 rfl ?_
                          refine aw_aload_n C dX7_digest_141 rfl ?_
                          refine aw_iload_n C dX7_digest_142 rfl ?_
                          refine aw_callV (n := 1) C hE (ci := 9) (q := (RX7, TX7, 22)) (k_X7_bestNow B hM6 hI hi) gX7_digest_X7_bestNow rfl ⟨rfl, rfl⟩ (by decide +kernel) ⟨by decide, by decide⟩ rfl rfl hM6.mo rfl (Nat.le_of_ble_eq_true rfl) dX7_digest_143 ⟨by show _ ≤ 98; omega, by show _ ≤ 982; omega⟩ (fun v μ' hp => ?_)
                          obtain ⟨rfl, bh9, bv9, hM7, hG7⟩ := hp
                          have hF7 : FrM K S.nA S.nQ μ _ := hF6.tr hG7
                          refine aw_st (st' := [.int (beF S i), .ref (K 0 0)]) rfl ?_
                          refine aw_re (P := fun μ1 => RM g K e0 S ((((X.wth 0).wh bh9).wv bv9).wsm (d2 * 31 + (FP.d2l (FP.dmul 4652218415073722368 (sdF S i))))) μ1 ∧ FrM K S.nA S.nQ μ μ1) ⟨hM7, hF7⟩ (fun μ8 hq => ?_)
                          obtain ⟨hM8, hF8⟩ := hq
                          refine aw_i2l C dX7_digest_146 ?_
                          refine aw_callV (n := 1) C hE (ci := 9) (q := (RX7, TX7, 22)) (k_X7_add (d := (beF S i).toInt64) B hM8) gX7_digest_X7_add rfl ⟨rfl, rfl⟩ (by decide +kernel) ⟨by decide, by decide⟩ rfl rfl hM8.mo rfl (Nat.le_of_ble_eq_true rfl) dX7_digest_147 ⟨by show _ ≤ 98; omega, by show _ ≤ 982; omega⟩ (fun v μ' hp => ?_)
                          obtain ⟨rfl, hM9, hG9⟩ := hp
                          have hF9 : FrM K S.nA S.nQ μ _ := hF8.tr hG9
                          refine aw_st (st' := []) rfl ?_
                          refine aw_re (P := fun μ1 => RM g K e0 S ((((X.wth 0).wh bh9).wv bv9).wsm ((d2 * 31 + (FP.d2l (FP.dmul 4652218415073722368 (sdF S i)))) * 31 + ((beF S i).toInt64))) μ1 ∧ FrM K S.nA S.nQ μ μ1) ⟨hM9, hF9⟩ (fun μ10 hq => ?_)
                          obtain ⟨hM10, hF10⟩ := hq
                          refine aw_iinc C dX7_digest_150 rfl (by decide) ?_
                          refine aw_goto C (tgt := 71) dX7_digest_153 (by decide) ?_
                          refine aw_widen (n := 32 + 11 * (i + 1)) (k := 256 + 121 * (i + 1)) (by omega) (by omega) ?_
                          refine aw_lv (lv' := [(0, .ref (K 0 0)), (1, .int (nI i + Int32.ofInt 1))]) ⟨rfl, rfl, trivial⟩ ?_
                          exact ih _ (by omega) (i + 1) (nI i + Int32.ofInt 1) ((d2 * 31 + (FP.d2l (FP.dmul 4652218415073722368 (sdF S i)))) * 31 + ((beF S i).toInt64)) bh9 bv9 _ rfl (nI_inc i) (by omega) (by rw [dgL_s, ← hd, dgR, hd2]) hM10 hF10
                        · have hw : w < 11 := lt_of (n := 11) hy (by omega) (by omega) c_87
                          subst hy
                          refine aw_aload_n C dX7_digest_90 rfl ?_
                          refine aw_aload_n C dX7_digest_91 rfl ?_
                          refine aw_get C f10 hMj.mo rfl dX7_digest_92 ?_
                          refine aw_iload_n C dX7_digest_95 rfl ?_
                          refine aw_callV (n := 1) C hE (ci := 1) (q := (RJx4a65c, TJx4a65c, 3)) (k_getA B hMj hI hi) gX7_digest_Jx4a65c_get_915e3 rfl ⟨rfl, rfl⟩ (by decide +kernel) ⟨by decide, by decide⟩ rfl rfl hMj.aL rfl (Nat.le_of_ble_eq_true rfl) dX7_digest_96 ⟨by show _ ≤ 98; omega, by show _ ≤ 982; omega⟩ (fun v μ' hp => ?_)
                          obtain ⟨rfl, hm9⟩ := hp
                          replace hm9 := hm9.symm
                          subst hm9
                          refine aw_st (st' := [.ref (K 8 i), .ref (K 0 0)]) rfl ?_
                          refine aw_cast C (ci := 7) (by decide +kernel) (va_Nw.warmC hE.1 B.caXa) rfl (hMj.xa hi) dX7_digest_99 ?_
                          refine aw_iload_n C dX7_digest_102 rfl ?_
                          refine aw_callS (n := 2) C hE (k_X7_ofArcherNow (w := w) B (hMj.xa hi) hw) gX7_digest_X7_ofArcherNow rfl ⟨rfl, rfl⟩ (by decide +kernel) ⟨by decide, by decide⟩ rfl rfl (Nat.le_of_ble_eq_true rfl) dX7_digest_103 ⟨by show _ ≤ 98; omega, by show _ ≤ 982; omega⟩ (fun v μ' hp => ?_)
                          obtain ⟨rfl, hk5⟩ := hp
                          have hM5 := hMj.keep hk5
                          have hF5 := hFj.kp hk5
                          refine aw_st (st' := [.int (oaX (S.A i) w), .ref (K 0 0)]) rfl ?_
                          refine aw_re (P := fun μ1 => RM g K e0 S ((((X.wth 0).wh xh).wv xv).wsm d2) μ1 ∧ FrM K S.nA S.nQ μ μ1) ⟨hM5, hF5⟩ (fun μ6 hq => ?_)
                          obtain ⟨hM6, hF6⟩ := hq
                          refine aw_i2l C dX7_digest_106 ?_
                          refine aw_callV (n := 1) C hE (ci := 9) (q := (RX7, TX7, 22)) (k_X7_add (d := (oaX (S.A i) w).toInt64) B hM6) gX7_digest_X7_add rfl ⟨rfl, rfl⟩ (by decide +kernel) ⟨by decide, by decide⟩ rfl rfl hM6.mo rfl (Nat.le_of_ble_eq_true rfl) dX7_digest_107 ⟨by show _ ≤ 98; omega, by show _ ≤ 982; omega⟩ (fun v μ' hp => ?_)
                          obtain ⟨rfl, hM7, hG7⟩ := hp
                          have hF7 : FrM K S.nA S.nQ μ _ := hF6.tr hG7
                          refine aw_st (st' := []) rfl ?_
                          refine aw_re (P := fun μ1 => RM g K e0 S ((((X.wth 0).wh xh).wv xv).wsm (d2 * 31 + ((oaX (S.A i) w).toInt64))) μ1 ∧ FrM K S.nA S.nQ μ μ1) ⟨hM7, hF7⟩ (fun μ8 hq => ?_)
                          obtain ⟨hM8, hF8⟩ := hq
                          refine aw_iinc C dX7_digest_110 rfl (by decide) ?_
                          refine aw_goto C (tgt := 84) dX7_digest_113 (by decide) ?_
                          refine aw_widen (n := 32 + 11 * i + (w + 1)) (k := 256 + 121 * i + 11 * (w + 1)) (by omega) (by omega) ?_
                          refine aw_lv (lv' := [(0, .ref (K 0 0)), (1, .int (nI i)), (2, .int (nI w + Int32.ofInt 1))]) ⟨rfl, rfl, rfl, trivial⟩ ?_
                          exact ih2 _ (by omega) (w + 1) (nI w + Int32.ofInt 1) (d2 * 31 + ((oaX (S.A i) w).toInt64)) _ rfl (nI_inc w) (by omega) (by rw [dgA_s, ← hd2]; rfl) hM8 hF8
                    exact loop84 _ 0 0 d _ rfl rfl (by decide) rfl hMl hFl
              exact loop71 _ 0 0 (d * 31 + ((S.c 14).toInt64)) xh xv _ rfl rfl (Nat.zero_le _) (by rw [hd, e8, dgL_0]) hM4 hF4
            · have hi : i < 8 := lt_of (n := 8) hx (by omega) (by omega) c_41
              subst hx
              refine aw_aload_n C dX7_digest_44 rfl ?_
              refine aw_aload_n C dX7_digest_45 rfl ?_
              refine aw_iload_n C dX7_digest_46 rfl ?_
              refine aw_callV (n := 1) C hE (ci := 9) (q := (RX7, TX7, 22)) (k_X7_ofMatchNow (w := i) B hMl hI (show MR S _ b from hR) hi hb) gX7_digest_X7_ofMatchNow rfl ⟨rfl, rfl⟩ (by decide +kernel) ⟨by decide, by decide⟩ rfl rfl hMl.mo rfl (Nat.le_of_ble_eq_true rfl) dX7_digest_47 ⟨by show _ ≤ 98; omega, by show _ ≤ 982; omega⟩ (fun v μ' hp => ?_)
              obtain ⟨rfl, hk3⟩ := hp
              have hM3 := hMl.keep hk3
              have hF3 := hFl.kp hk3
              refine aw_st (st' := [.int (omF S i), .ref (K 0 0)]) rfl ?_
              refine aw_re (P := fun μ1 => RM g K e0 S ((((X.wth 0).wh xh).wv xv).wsm d) μ1 ∧ FrM K S.nA S.nQ μ μ1) ⟨hM3, hF3⟩ (fun μ4 hq => ?_)
              obtain ⟨hM4, hF4⟩ := hq
              refine aw_i2l C dX7_digest_50 ?_
              refine aw_callV (n := 1) C hE (ci := 9) (q := (RX7, TX7, 22)) (k_X7_add (d := (omF S i).toInt64) B hM4) gX7_digest_X7_add rfl ⟨rfl, rfl⟩ (by decide +kernel) ⟨by decide, by decide⟩ rfl rfl hM4.mo rfl (Nat.le_of_ble_eq_true rfl) dX7_digest_51 ⟨by show _ ≤ 98; omega, by show _ ≤ 982; omega⟩ (fun v μ' hp => ?_)
              obtain ⟨rfl, hM5, hG5⟩ := hp
              have hF5 : FrM K S.nA S.nQ μ _ := hF4.tr hG5
              refine aw_st (st' := []) rfl ?_
              refine aw_re (P := fun μ1 => RM g K e0 S ((((X.wth 0).wh xh).wv xv).wsm (d * 31 + ((omF S i).toInt64))) μ1 ∧ FrM K S.nA S.nQ μ μ1) ⟨hM5, hF5⟩ (fun μ6 hq => ?_)
              obtain ⟨hM6, hF6⟩ := hq
              refine aw_iinc C dX7_digest_54 rfl (by decide) ?_
              refine aw_goto C (tgt := 38) dX7_digest_57 (by decide) ?_
              refine aw_widen (n := 24 + (i + 1)) (k := 192 + 8 * (i + 1)) (by omega) (by omega) ?_
              refine aw_lv (lv' := [(0, .ref (K 0 0)), (1, .int (nI i + Int32.ofInt 1))]) ⟨rfl, rfl, trivial⟩ ?_
              exact ih _ (by omega) (i + 1) (nI i + Int32.ofInt 1) (d * 31 + ((omF S i).toInt64)) xh xv _ rfl (nI_inc i) (by omega) (by rw [dgA_s, ← hd]) hM6 hF6
        exact loop38 _ 0 0 d xh xv _ rfl rfl (by decide) (by rw [hd, e8, dgA_0]) hMl hFl
      · have hi : i < 12 := lt_of (n := 12) hx (by omega) (by omega) c_17
        subst hx
        refine aw_aload_n C dX7_digest_20 rfl ?_
        refine aw_aload_n C dX7_digest_21 rfl ?_
        refine aw_iload_n C dX7_digest_22 rfl ?_
        refine aw_callV (n := 1) C hE (ci := 9) (q := (RX7, TX7, 22)) (k_X7_manyNow (w := i) B hMl hI hi) gX7_digest_X7_manyNow rfl ⟨rfl, rfl⟩ (by decide +kernel) ⟨by decide, by decide⟩ rfl rfl hMl.mo rfl (Nat.le_of_ble_eq_true rfl) dX7_digest_23 ⟨by show _ ≤ 98; omega, by show _ ≤ 982; omega⟩ (fun v μ' hp => ?_)
        obtain ⟨rfl, hM3, hG3⟩ := hp
        have hF3 : FrM K S.nA S.nQ μ _ := hFl.tr hG3
        refine aw_st (st' := [.int (mnF S i), .ref (K 0 0)]) rfl ?_
        refine aw_re (P := fun μ1 => RM g K e0 S ((((X.wth 0).wh xh).wv xv).wsm d) μ1 ∧ FrM K S.nA S.nQ μ μ1) ⟨hM3, hF3⟩ (fun μ4 hq => ?_)
        obtain ⟨hM4, hF4⟩ := hq
        refine aw_i2l C dX7_digest_26 ?_
        refine aw_callV (n := 1) C hE (ci := 9) (q := (RX7, TX7, 22)) (k_X7_add (d := (mnF S i).toInt64) B hM4) gX7_digest_X7_add rfl ⟨rfl, rfl⟩ (by decide +kernel) ⟨by decide, by decide⟩ rfl rfl hM4.mo rfl (Nat.le_of_ble_eq_true rfl) dX7_digest_27 ⟨by show _ ≤ 98; omega, by show _ ≤ 982; omega⟩ (fun v μ' hp => ?_)
        obtain ⟨rfl, hM5, hG5⟩ := hp
        have hF5 : FrM K S.nA S.nQ μ _ := hF4.tr hG5
        refine aw_st (st' := []) rfl ?_
        refine aw_re (P := fun μ1 => RM g K e0 S ((((X.wth 0).wh xh).wv xv).wsm (d * 31 + ((mnF S i).toInt64))) μ1 ∧ FrM K S.nA S.nQ μ μ1) ⟨hM5, hF5⟩ (fun μ6 hq => ?_)
        obtain ⟨hM6, hF6⟩ := hq
        refine aw_iinc C dX7_digest_30 rfl (by decide) ?_
        refine aw_goto C (tgt := 14) dX7_digest_33 (by decide) ?_
        refine aw_widen (n := 2 * (i + 1)) (k := 16 * (i + 1)) (by omega) (by omega) ?_
        refine aw_lv (lv' := [(0, .ref (K 0 0)), (1, .int (nI i + Int32.ofInt 1))]) ⟨rfl, rfl, trivial⟩ ?_
        exact ih _ (by omega) (i + 1) (nI i + Int32.ofInt 1) (d * 31 + ((mnF S i).toInt64)) xh xv _ rfl (nI_inc i) (by omega) (by rw [dgA_s, ← hd]) hM6 hF6
  exact loop14 _ 0 0 58318 X.h X.v _ rfl rfl (by decide) rfl hM2 hF2
end KM8
