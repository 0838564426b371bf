/-! ===== ArrowFieldModel: gives, mends, matches, pulls ===== -/
theorem wA_wA {S : SS} {j : Nat} {x y : Nat → Int32} : (S.wA (fu S.A j x)).wA (fu (S.wA (fu S.A j x)).A j y) = S.wA (fu S.A j y) := by
  show S.wA (fu (fu S.A j x) j y) = _
  rw [fu_fu]
theorem wF_wF {S : SS} {j : Nat} {x y : Nat → Int32} : (S.wF (fu S.F j x)).wF (fu (S.wF (fu S.F j x)).F j y) = S.wF (fu S.F j y) := by
  show S.wF (fu (fu S.F j x) j y) = _
  rw [fu_fu]
theorem wF_id {S : SS} {j : Nat} : S.wF (fu S.F j (S.F j)) = S := by
  rw [fu_id]
/-- how many bits are set: as many as there are -/
def setB (b : Nat → Bool) : Nat → Int32
  | 0 => 0
  | k + 1 => if b k = true then setB b k ||| ((1 : Int32) <<< (nI k &&& 31)) else setB b k
def bbB (b : Nat → Bool) : Nat → Nat
  | 0 => 0
  | k + 1 => if b k = true then bbB b k + 1 else bbB b k
theorem setN_B (f : Nat → Int32) (x : Int32) : ∀ n, setN f x n = setB (fun k => decide (f k = x)) n
  | 0 => rfl
  | n + 1 => by
    unfold setN setB
    rw [setN_B f x n]
    by_cases h : f n = x
    · rw [if_pos h, if_pos (decide_eq_true h)]
    · rw [if_neg h, if_neg (fun q => h (of_decide_eq_true q))]
theorem bbN_B (f : Nat → Int32) (x : Int32) : ∀ n, bbN f x n = bbB (fun k => decide (f k = x)) n
  | 0 => rfl
  | n + 1 => by
    unfold bbN bbB
    rw [bbN_B f x n]
    by_cases h : f n = x
    · rw [if_pos h, if_pos (decide_eq_true h)]
    · rw [if_neg h, if_neg (fun q => h (of_decide_eq_true q))]
theorem bc_key : ∀ b0 b1 b2 b3 b4 b5 b6 b7 b8 b9 b10 b11 : Bool, bcF (setB (fun k => ([b0, b1, b2, b3, b4, b5, b6, b7, b8, b9, b10, b11] : List Bool).getD k false) 12) = nI (bbB (fun k => ([b0, b1, b2, b3, b4, b5, b6, b7, b8, b9, b10, b11] : List Bool).getD k false) 12) := by decide +kernel
theorem B_ext {b c : Nat → Bool} : ∀ n, (∀ k, k < n → b k = c k) → setB b n = setB c n ∧ bbB b n = bbB c n
  | 0, _ => ⟨rfl, rfl⟩
  | n + 1, h => by
    obtain ⟨h1, h2⟩ := B_ext n (fun k hk => h k (by omega))
    unfold setB bbB
    rw [h n (Nat.lt_succ_self n), h1, h2]
    exact ⟨rfl, rfl⟩
theorem bc_bb (f : Nat → Int32) (x : Int32) : bcF (setN f x 12) = nI (bbN f x 12) := by
  rw [setN_B, bbN_B]
  generalize (fun k => decide (f k = x)) = b
  have h : ∀ k, k < 12 → b k = (fun k => ([b 0, b 1, b 2, b 3, b 4, b 5, b 6, b 7, b 8, b 9, b 10, b 11] : List Bool).getD k false) k := by
    intro k hk
    have : k = 0 ∨ k = 1 ∨ k = 2 ∨ k = 3 ∨ k = 4 ∨ k = 5 ∨ k = 6 ∨ k = 7 ∨ k = 8 ∨ k = 9 ∨ k = 10 ∨ k = 11 := by omega
    rcases this with rfl | rfl | rfl | rfl | rfl | rfl | rfl | rfl | rfl | rfl | rfl | rfl <;> rfl
  obtain ⟨h1, h2⟩ := B_ext 12 h
  rw [h1, h2]
  exact bc_key _ _ _ _ _ _ _ _ _ _ _ _
/-- all but the broken ones are here -/
def plF (f : Nat → Int32) (n : Nat) : Nat → Int32 := fun k => if k < n ∧ ¬ f k = 3 then 0 else f k
theorem plF_0 (f : Nat → Int32) : plF f 0 = f := by
  funext k
  exact if_neg (fun h => Nat.not_lt_zero _ h.1)
theorem plF_at (f : Nat → Int32) (n : Nat) : plF f n n = f n := if_neg (fun h => Nat.lt_irrefl _ h.1)
theorem plF_y {f : Nat → Int32} {n : Nat} (h : ¬ f n = 3) : upd (plF f n) n 0 = plF f (n + 1) := by
  funext k
  unfold upd plF
  by_cases hk : k = n
  · subst hk
    rw [if_pos rfl, if_pos ⟨Nat.lt_succ_self _, h⟩]
  · rw [if_neg hk]
    by_cases h2 : k < n ∧ ¬ f k = 3
    · rw [if_pos h2, if_pos ⟨by omega, h2.2⟩]
    · rw [if_neg h2, if_neg (fun q => h2 ⟨by omega, q.2⟩)]
theorem plF_n {f : Nat → Int32} {n : Nat} (h : f n = 3) : plF f n = plF f (n + 1) := by
  funext k
  unfold plF
  by_cases hk : k = n
  · subst hk
    rw [if_neg (fun q => q.2 h), if_neg (fun q => q.2 h)]
  · by_cases h2 : k < n ∧ ¬ f k = 3
    · rw [if_pos h2, if_pos ⟨by omega, h2.2⟩]
    · rw [if_neg h2, if_neg (fun q => h2 ⟨by omega, q.2⟩)]
theorem plF_bb {f : Nat → Int32} (h : ∀ k, f k = 0 ∨ f k = 1 ∨ f k = 2 ∨ f k = 3) : plF f 12 = bbF (bbF f 1 12) 2 12 := by
  funext k
  unfold plF
  by_cases hk : k < 12
  · have e : bbF f 1 12 k = if f k = 1 then 0 else f k := by
      unfold bbF
      by_cases q : f k = 1
      · rw [if_pos ⟨hk, q⟩, if_pos q]
      · rw [if_neg (fun z => q z.2), if_neg q]
    have e2 : bbF (bbF f 1 12) 2 12 k = if bbF f 1 12 k = 2 then 0 else bbF f 1 12 k := by
      show (if k < 12 ∧ bbF f 1 12 k = 2 then 0 else bbF f 1 12 k) = _
      by_cases q : bbF f 1 12 k = 2
      · rw [if_pos ⟨hk, q⟩, if_pos q]
      · rw [if_neg (fun z => q z.2), if_neg q]
    rw [e2, e]
    rcases h k with q | q | q | q <;> rw [q] <;> simp [hk]
  · have e2 : bbF (bbF f 1 12) 2 12 k = f k := by
      show (if k < 12 ∧ bbF f 1 12 k = 2 then 0 else bbF f 1 12 k) = _
      rw [if_neg (fun z => hk z.1)]
      show (if k < 12 ∧ f k = 1 then 0 else f k) = _
      rw [if_neg (fun z => hk z.1)]
    rw [e2, if_neg (fun z => hk z.1)]
section KM3
variable {l : Launch} {s0 : State} {D : va_G} {g : Nat → ClassId}
set_option maxRecDepth 100000 in
set_option maxHeartbeats 4000000 in
theorem k_X7_give (B : Base s0) {μ : mu} {K : Nat → Nat → Nat} {e0 : Nat} {S : SS} {X : XS} (hM : RM g K e0 S X μ) (hI : Iv S) {b : Nat} (hR : MR S X b) {x y : Int32} : Ct l yX7_give wsX7_give (rmOf 4 0 0 180) s0 D (tyL g) [.ref (K 0 0), .int x, .int y] μ 0 0 (fun v9 μ' => (∃ r : Int32, v9 = some (.int r) ∧ (giC S x y = 0 → r = hoF S y)) ∧ PMx g K e0 S (giS S (ix x) y) (giC S x y) b μ μ') := by
  refine Ct.of (cc := cX7_give) (own := RX7) (maxL := 4) (ret := (some .int)) (by decide) rfl rfl (Nat.le_of_ble_eq_true rfl) ?_
  intro p e s m args below meth c Q C hE hnm hQe
  have in_RX7 : ∀ w ∈ u_ws RX7 TX7 22, w ∈ wsX7_give := by decide +kernel
  have in_RX5 : ∀ w ∈ u_ws RX5 TX5 12, w ∈ wsX7_give := by decide +kernel
  have f39 : FL wsX7_give RX7 39 9 "ArrowFieldModel" RX7 TX7 22 0 := ⟨in_RX7, rfl, by decide, by decide +kernel, Or.inl rfl⟩
  have f10 : FL wsX7_give RX7 10 9 "ArrowFieldModel" RX7 TX7 22 1 := ⟨in_RX7, rfl, by decide, by decide +kernel, Or.inl rfl⟩
  have f56 : FN s0 wsX7_give RX7 56 7 "ArrowFieldModel$Archer" RX5 TX5 12 5 "ArrowFieldModel" := ⟨in_RX5, rfl, by decide, B.fnRX7_56, rfl⟩
  refine aw_aload_n C dX7_give_0 rfl ?_
  refine aw_iconst C (v := 0) (by decide) dX7_give_1 ?_
  refine aw_putE C f39 ftX7 (ty := .int) (by decide +kernel) rfl rfl hM.mo (Nat.le_of_ble_eq_true rfl) (fs' := [.int 0, .ref (K 1 0), .ref (K 2 0), .int (S.c 4), .int (S.c 5), .int (S.c 6), .int (S.c 9), .int (S.c 10), .int (S.c 8), .int (S.c 13), .int (S.c 7), .int (S.c 11), .int (S.c 14), .ref (K 3 0), .ref (K 4 0), .ref (K 5 0), .double X.ne, .int (nI X.T), .int X.il, .double X.h, .double X.v, .long X.sm]) rfl dX7_give_2 ?_
  refine aw_re (P := fun μ1 => RM g K e0 S (X.wth 0) μ1 ∧ FrM K S.nA S.nQ μ μ1) ⟨hM.setX (X.wth 0) rfl rfl rfl, (FrM.rf : FrM K S.nA S.nQ μ μ).mpw (m0 (by decide))⟩ (fun μ1 hq => ?_)
  obtain ⟨hM1, hF1⟩ := hq
  refine aw_aload_n C dX7_give_5 rfl ?_
  refine aw_iload_n C dX7_give_6 rfl ?_
  refine aw_callV (n := 1) C hE (ci := 9) (q := (RX7, TX7, 22)) (k_X7_isArcher (x := x) B hM1 hI) gX7_give_X7_isArcher rfl ⟨rfl, rfl⟩ (by decide +kernel) ⟨by decide, by decide⟩ rfl rfl hM1.mo rfl (Nat.le_of_ble_eq_true rfl) dX7_give_7 ⟨by decide, by decide⟩ (fun v μ' hp => ?_)
  obtain ⟨rfl, hm9⟩ := hp
  replace hm9 := hm9.symm
  subst hm9
  refine aw_st (st' := [.int (if inb x S.nA = true then 1 else 0)]) rfl ?_
  by_cases b7 : inb x S.nA = true
  · refine aw_eqi (y := 1) (if_pos b7) ?_
    refine aw_if_eq C (tgt := 21) dX7_give_10 (by decide) (fun c9 => absurd c9 (by decide)) (fun _ => ?_)
    refine aw_aload_n C dX7_give_13 rfl ?_
    refine aw_iload_n C dX7_give_14 rfl ?_
    refine aw_callV (n := 1) C hE (ci := 9) (q := (RX7, TX7, 22)) (k_X7_isQuiver (x := y) B hM1 hI) gX7_give_X7_isQuiver rfl ⟨rfl, rfl⟩ (by decide +kernel) ⟨by decide, by decide⟩ rfl rfl hM1.mo rfl (Nat.le_of_ble_eq_true rfl) dX7_give_15 ⟨by decide, by decide⟩ (fun v μ' hp => ?_)
    obtain ⟨rfl, hm9⟩ := hp
    replace hm9 := hm9.symm
    subst hm9
    refine aw_st (st' := [.int (if inb y S.nQ = true then 1 else 0)]) rfl ?_
    by_cases b15 : inb y S.nQ = true
    · refine aw_eqi (y := 1) (if_pos b15) ?_
      refine aw_if_ne C (tgt := 27) dX7_give_18 (by decide) (fun _ => ?_) (fun c9 => absurd c9 (by decide))
      obtain ⟨j, hj, rfl⟩ := inb_of b7 (by have := hI.A6; omega)
      obtain ⟨k, hk, rfl⟩ := inb_of b15 (by have := hI.Q6; omega)
      refine aw_aload_n C dX7_give_27 rfl ?_
      refine aw_callV (n := 0) C hE (ci := 9) (q := (RX7, TX7, 22)) (k_X7_isOn B hM1 hI hR) gX7_give_X7_isOn rfl ⟨rfl, rfl⟩ (by decide +kernel) ⟨by decide, by decide⟩ rfl rfl hM1.mo rfl (Nat.le_of_ble_eq_true rfl) dX7_give_28 ⟨by decide, by decide⟩ (fun v μ' hp => ?_)
      obtain ⟨rfl, hm9⟩ := hp
      replace hm9 := hm9.symm
      subst hm9
      refine aw_st (st' := [.int (if S.t 0 = 0 then 0 else 1)]) rfl ?_
      by_cases b28 : S.t 0 = 0
      · refine aw_eqi (y := 0) (if_pos b28) ?_
        refine aw_if_eq C (tgt := 40) dX7_give_31 (by decide) (fun _ => ?_) (fun c9 => absurd (by decide) c9)
        refine aw_aload_n C dX7_give_40 rfl ?_
        refine aw_iload_n C dX7_give_41 rfl ?_
        refine aw_callV (n := 1) C hE (ci := 9) (q := (RX7, TX7, 22)) (k_X7_holder (x := (nI k)) B hM1 hI) gX7_give_X7_holder rfl ⟨rfl, rfl⟩ (by decide +kernel) ⟨by decide, by decide⟩ rfl rfl hM1.mo rfl (Nat.le_of_ble_eq_true rfl) dX7_give_42 ⟨by decide, by decide⟩ (fun v μ' hp => ?_)
        obtain ⟨rfl, hm9⟩ := hp
        replace hm9 := hm9.symm
        subst hm9
        refine aw_st (st' := [.int (hoF S (nI k))]) rfl ?_
        refine aw_istore_n C dX7_give_45 (by decide) ?_
        refine aw_iload_n C dX7_give_46 rfl ?_
        refine aw_iconst C (v := (-1)) (by decide) dX7_give_47 ?_
        refine aw_icmp_eq C (tgt := 66) dX7_give_48 (by decide) (fun c_48 => ?_) (fun c_48 => ?_)
        · refine aw_aload_n C dX7_give_66 rfl ?_
          refine aw_get C f10 hM1.mo rfl dX7_give_67 ?_
          refine aw_iload_n C dX7_give_70 rfl ?_
          refine aw_callV (n := 1) C hE (ci := 1) (q := (RJx4a65c, TJx4a65c, 3)) (k_getA B hM1 hI hj) gX7_give_Jx4a65c_get_915e3 rfl ⟨rfl, rfl⟩ (by decide +kernel) ⟨by decide, by decide⟩ rfl rfl hM1.aL rfl (Nat.le_of_ble_eq_true rfl) dX7_give_71 ⟨by decide, by decide⟩ (fun v μ' hp => ?_)
          obtain ⟨rfl, hm9⟩ := hp
          replace hm9 := hm9.symm
          subst hm9
          refine aw_st (st' := [.ref (K 8 j)]) rfl ?_
          refine aw_cast C (ci := 7) (by decide +kernel) (va_Nw.warmC hE.1 B.caXa) rfl (hM1.xa hj) dX7_give_74 ?_
          refine aw_iload_n C dX7_give_77 rfl ?_
          refine aw_putNE C hE f56 ftX5 (ty := .int) (by decide +kernel) rfl rfl (hM1.xa hj) (Nat.le_of_ble_eq_true rfl) (fs' := [.int (S.A j 0), .int (S.A j 1), .int (S.A j 2), .int (S.A j 3), .float (S.cr j), .int (nI k), .int (S.A j 6), .int (S.A j 7), .int (S.A j 8), .int (S.A j 9), .int (S.A j 10), .int (S.A j 11)]) rfl dX7_give_78 ?_
          refine aw_re (P := fun μ1 => RM g K e0 (S.wA (fu S.A j (upd (S.A j) 5 (nI k)))) (X.wth 0) μ1 ∧ FrM K S.nA S.nQ μ μ1) ⟨hM1.setXA hj (upd (S.A j) 5 (nI k)), hF1.mpw (m8 hj)⟩ (fun μ2 hq => ?_)
          obtain ⟨hM2, hF2⟩ := hq
          refine aw_iload_n C dX7_give_81 rfl ?_
          refine aw_iret C hQe ?_ (by omega) (by omega) dX7_give_82
          have hi : ¬ hoI S (nI k) < S.nA := fun q => by rw [hoF_I, if_pos q] at c_48; exact nI_m1 (by have := hI.A6; omega) c_48
          have e8 : giA S (nI k) = S := if_neg hi
          have hc : giC S (nI j) (nI k) = 0 := by simp [giC, b7, b15, b28, c_48]
          rw [hc]
          rw [show ix (nI j) = j from ix_nI hj (by have := hI.A6; omega)]
          unfold giS
          rw [e8]
          exact ⟨⟨_, rfl, fun _ => rfl⟩, ⟨X.wth 0, hM2, hR, rfl⟩, hF2⟩
        · have hi : hoI S (nI k) < S.nA := Classical.byContradiction fun q => c_48 (by rw [hoF_I, if_neg q])
          have e9 : hoF S (nI k) = nI (hoI S (nI k)) := by rw [hoF_I, if_pos hi]
          refine aw_aload_n C dX7_give_51 rfl ?_
          refine aw_get C f10 hM1.mo rfl dX7_give_52 ?_
          refine aw_iload_n C dX7_give_55 rfl ?_
          refine aw_eqi (y := nI (hoI S (nI k))) e9 ?_
          refine aw_callV (n := 1) C hE (ci := 1) (q := (RJx4a65c, TJx4a65c, 3)) (k_getA B hM1 hI hi) gX7_give_Jx4a65c_get_915e3 rfl ⟨rfl, rfl⟩ (by decide +kernel) ⟨by decide, by decide⟩ rfl rfl hM1.aL rfl (Nat.le_of_ble_eq_true rfl) dX7_give_56 ⟨by decide, by decide⟩ (fun v μ' hp => ?_)
          obtain ⟨rfl, hm9⟩ := hp
          replace hm9 := hm9.symm
          subst hm9
          refine aw_st (st' := [.ref (K 8 (hoI S (nI k)))]) rfl ?_
          refine aw_cast C (ci := 7) (by decide +kernel) (va_Nw.warmC hE.1 B.caXa) rfl (hM1.xa hi) dX7_give_59 ?_
          refine aw_iconst C (v := (-1)) (by decide) dX7_give_62 ?_
          refine aw_putNE C hE f56 ftX5 (ty := .int) (by decide +kernel) rfl rfl (hM1.xa hi) (Nat.le_of_ble_eq_true rfl) (fs' := [.int (S.A (hoI S (nI k)) 0), .int (S.A (hoI S (nI k)) 1), .int (S.A (hoI S (nI k)) 2), .int (S.A (hoI S (nI k)) 3), .float (S.cr (hoI S (nI k))), .int (-1), .int (S.A (hoI S (nI k)) 6), .int (S.A (hoI S (nI k)) 7), .int (S.A (hoI S (nI k)) 8), .int (S.A (hoI S (nI k)) 9), .int (S.A (hoI S (nI k)) 10), .int (S.A (hoI S (nI k)) 11)]) rfl dX7_give_63 ?_
          refine aw_re (P := fun μ1 => RM g K e0 (S.wA (fu S.A (hoI S (nI k)) (upd (S.A (hoI S (nI k))) 5 (-1)))) (X.wth 0) μ1 ∧ FrM K S.nA S.nQ μ μ1) ⟨hM1.setXA hi (upd (S.A (hoI S (nI k))) 5 (-1)), hF1.mpw (m8 hi)⟩ (fun μ2 hq => ?_)
          obtain ⟨hM2, hF2⟩ := hq
          refine aw_aload_n C dX7_give_66 rfl ?_
          refine aw_get C f10 hM2.mo rfl dX7_give_67 ?_
          refine aw_iload_n C dX7_give_70 rfl ?_
          refine aw_callV (n := 1) C hE (ci := 1) (q := (RJx4a65c, TJx4a65c, 3)) (k_getA B hM2 hI hj) gX7_give_Jx4a65c_get_915e3 rfl ⟨rfl, rfl⟩ (by decide +kernel) ⟨by decide, by decide⟩ rfl rfl hM2.aL rfl (Nat.le_of_ble_eq_true rfl) dX7_give_71 ⟨by decide, by decide⟩ (fun v μ' hp => ?_)
          obtain ⟨rfl, hm9⟩ := hp
          replace hm9 := hm9.symm
          subst hm9
          refine aw_st (st' := [.ref (K 8 j)]) rfl ?_
          refine aw_cast C (ci := 7) (by decide +kernel) (va_Nw.warmC hE.1 B.caXa) rfl (hM2.xa hj) dX7_give_74 ?_
          refine aw_iload_n C dX7_give_77 rfl ?_
          refine aw_putNE C hE f56 ftX5 (ty := .int) (by decide +kernel) rfl rfl (hM2.xa hj) (Nat.le_of_ble_eq_true rfl) (fs' := [.int ((S.wA (fu S.A (hoI S (nI k)) (upd (S.A (hoI S (nI k))) 5 (-1)))).A j 0), .int ((S.wA (fu S.A (hoI S (nI k)) (upd (S.A (hoI S (nI k))) 5 (-1)))).A j 1), .int ((S.wA (fu S.A (hoI S (nI k)) (upd (S.A (hoI S (nI k))) 5 (-1)))).A j 2), .int ((S.wA (fu S.A (hoI S (nI k)) (upd (S.A (hoI S (nI k))) 5 (-1)))).A j 3), .float ((S.wA (fu S.A (hoI S (nI k)) (upd (S.A (hoI S (nI k))) 5 (-1)))).cr j), .int (nI k), .int ((S.wA (fu S.A (hoI S (nI k)) (upd (S.A (hoI S (nI k))) 5 (-1)))).A j 6), .int ((S.wA (fu S.A (hoI S (nI k)) (upd (S.A (hoI S (nI k))) 5 (-1)))).A j 7), .int ((S.wA (fu S.A (hoI S (nI k)) (upd (S.A (hoI S (nI k))) 5 (-1)))).A j 8), .int ((S.wA (fu S.A (hoI S (nI k)) (upd (S.A (hoI S (nI k))) 5 (-1)))).A j 9), .int ((S.wA (fu S.A (hoI S (nI k)) (upd (S.A (hoI S (nI k))) 5 (-1)))).A j 10), .int ((S.wA (fu S.A (hoI S (nI k)) (upd (S.A (hoI S (nI k))) 5 (-1)))).A j 11)]) rfl dX7_give_78 ?_
          refine aw_re (P := fun μ1 => RM g K e0 ((S.wA (fu S.A (hoI S (nI k)) (upd (S.A (hoI S (nI k))) 5 (-1)))).wA (fu (S.wA (fu S.A (hoI S (nI k)) (upd (S.A (hoI S (nI k))) 5 (-1)))).A j (upd ((S.wA (fu S.A (hoI S (nI k)) (upd (S.A (hoI S (nI k))) 5 (-1)))).A j) 5 (nI k)))) (X.wth 0) μ1 ∧ FrM K S.nA S.nQ μ μ1) ⟨hM2.setXA hj (upd ((S.wA (fu S.A (hoI S (nI k)) (upd (S.A (hoI S (nI k))) 5 (-1)))).A j) 5 (nI k)), hF2.mpw (m8 hj)⟩ (fun μ3 hq => ?_)
          obtain ⟨hM3, hF3⟩ := hq
          refine aw_iload_n C dX7_give_81 rfl ?_
          refine aw_iret C hQe ?_ (by omega) (by omega) dX7_give_82
          have e8 : giA S (nI k) = S.wA (fu S.A (hoI S (nI k)) (upd (S.A (hoI S (nI k))) 5 (-1))) := if_pos hi
          have hc : giC S (nI j) (nI k) = 0 := by simp [giC, b7, b15, b28, c_48]
          rw [hc]
          rw [show ix (nI j) = j from ix_nI hj (by have := hI.A6; omega)]
          unfold giS
          rw [e8]
          exact ⟨⟨_, rfl, fun _ => rfl⟩, ⟨X.wth 0, hM3, hR, rfl⟩, hF3⟩
      · refine aw_eqi (y := 1) (if_neg b28) ?_
        refine aw_if_eq C (tgt := 40) dX7_give_31 (by decide) (fun c9 => absurd c9 (by decide)) (fun _ => ?_)
        refine aw_aload_n C dX7_give_34 rfl ?_
        refine aw_iconst C (v := 2) (by decide) dX7_give_35 ?_
        refine aw_callV (n := 1) C hE (ci := 9) (q := (RX7, TX7, 22)) (k_X7_refuse (x := 2) B hM1) gX7_give_X7_refuse rfl ⟨rfl, rfl⟩ (by decide +kernel) ⟨by decide, by decide⟩ rfl rfl hM1.mo rfl (Nat.le_of_ble_eq_true rfl) dX7_give_36 ⟨by decide, by decide⟩ (fun v μ' hp => ?_)
        obtain ⟨rfl, hM2, hG2⟩ := hp
        have hF2 : FrM K S.nA S.nQ μ _ := hF1.tr hG2
        refine aw_st (st' := [.int 0]) rfl ?_
        refine aw_iret C hQe ?_ (by omega) (by omega) dX7_give_39
        have hc : giC S (nI j) (nI k) = 2 := by simp [giC, b7, b15, b28]
        rw [hc]
        exact ⟨⟨_, rfl, fun q => absurd q (by decide)⟩, ⟨(X.wth 0).wth 2, hM2, hR, rfl⟩, hF2⟩
    · refine aw_eqi (y := 0) (if_neg b15) ?_
      refine aw_if_ne C (tgt := 27) dX7_give_18 (by decide) (fun c9 => absurd (by decide) c9) (fun _ => ?_)
      refine aw_aload_n C dX7_give_21 rfl ?_
      refine aw_iconst C (v := 1) (by decide) dX7_give_22 ?_
      refine aw_callV (n := 1) C hE (ci := 9) (q := (RX7, TX7, 22)) (k_X7_refuse (x := 1) B hM1) gX7_give_X7_refuse rfl ⟨rfl, rfl⟩ (by decide +kernel) ⟨by decide, by decide⟩ rfl rfl hM1.mo rfl (Nat.le_of_ble_eq_true rfl) dX7_give_23 ⟨by decide, by decide⟩ (fun v μ' hp => ?_)
      obtain ⟨rfl, hM2, hG2⟩ := hp
      have hF2 : FrM K S.nA S.nQ μ _ := hF1.tr hG2
      refine aw_st (st' := [.int 0]) rfl ?_
      refine aw_iret C hQe ?_ (by omega) (by omega) dX7_give_26
      have hc : giC S x y = 1 := by simp [giC, b7, b15]
      rw [hc]
      exact ⟨⟨_, rfl, fun q => absurd q (by decide)⟩, ⟨(X.wth 0).wth 1, hM2, hR, rfl⟩, hF2⟩
  · refine aw_eqi (y := 0) (if_neg b7) ?_
    refine aw_if_eq C (tgt := 21) dX7_give_10 (by decide) (fun _ => ?_) (fun c9 => absurd (by decide) c9)
    refine aw_aload_n C dX7_give_21 rfl ?_
    refine aw_iconst C (v := 1) (by decide) dX7_give_22 ?_
    refine aw_callV (n := 1) C hE (ci := 9) (q := (RX7, TX7, 22)) (k_X7_refuse (x := 1) B hM1) gX7_give_X7_refuse rfl ⟨rfl, rfl⟩ (by decide +kernel) ⟨by decide, by decide⟩ rfl rfl hM1.mo rfl (Nat.le_of_ble_eq_true rfl) dX7_give_23 ⟨by decide, by decide⟩ (fun v μ' hp => ?_)
    obtain ⟨rfl, hM2, hG2⟩ := hp
    have hF2 : FrM K S.nA S.nQ μ _ := hF1.tr hG2
    refine aw_st (st' := [.int 0]) rfl ?_
    refine aw_iret C hQe ?_ (by omega) (by omega) dX7_give_26
    have hc : giC S x y = 1 := by simp [giC, b7]
    rw [hc]
    exact ⟨⟨_, rfl, fun q => absurd q (by decide)⟩, ⟨(X.wth 0).wth 1, hM2, hR, rfl⟩, hF2⟩
set_option maxRecDepth 100000 in
set_option maxHeartbeats 4000000 in
theorem k_X7_mend (B : Base s0) {μ : mu} {K : Nat → Nat → Nat} {e0 : Nat} {S : SS} {X : XS} (hM : RM g K e0 S X μ) (hI : Iv S) {b : Nat} (hR : MR S X b) {x : Int32} : Ct l yX7_mend wsX7_mend (rmOf 4 0 0 180) s0 D (tyL g) [.ref (K 0 0), .int x] μ 0 0 (fun v9 μ' => (∃ r : Int32, v9 = some (.int r) ∧ (meC S x = 0 → r = nI (bbN (S.F (ix x)) 3 12))) ∧ PMx g K e0 S (meS S (ix x)) (meC S x) b μ μ') := by
  refine Ct.of (cc := cX7_mend) (own := RX7) (maxL := 5) (ret := (some .int)) (by decide) rfl rfl (Nat.le_of_ble_eq_true rfl) ?_
  intro p e s m args below meth c Q C hE hnm hQe
  have in_RX7 : ∀ w ∈ u_ws RX7 TX7 22, w ∈ wsX7_mend := by decide +kernel
  have in_RX6 : ∀ w ∈ u_ws RX6 TX6 5, w ∈ wsX7_mend := by decide +kernel
  have f39 : FL wsX7_mend RX7 39 9 "ArrowFieldModel" RX7 TX7 22 0 := ⟨in_RX7, rfl, by decide, by decide +kernel, Or.inl rfl⟩
  have f16 : FL wsX7_mend RX7 16 9 "ArrowFieldModel" RX7 TX7 22 2 := ⟨in_RX7, rfl, by decide, by decide +kernel, Or.inl rfl⟩
  have f163 : FN s0 wsX7_mend RX7 163 8 "ArrowFieldModel$Quiver" RX6 TX6 5 2 "ArrowFieldModel" := ⟨in_RX6, rfl, by decide, B.fnRX7_163, rfl⟩
  refine aw_aload_n C dX7_mend_0 rfl ?_
  refine aw_iconst C (v := 0) (by decide) dX7_mend_1 ?_
  refine aw_putE C f39 ftX7 (ty := .int) (by decide +kernel) rfl rfl hM.mo (Nat.le_of_ble_eq_true rfl) (fs' := [.int 0, .ref (K 1 0), .ref (K 2 0), .int (S.c 4), .int (S.c 5), .int (S.c 6), .int (S.c 9), .int (S.c 10), .int (S.c 8), .int (S.c 13), .int (S.c 7), .int (S.c 11), .int (S.c 14), .ref (K 3 0), .ref (K 4 0), .ref (K 5 0), .double X.ne, .int (nI X.T), .int X.il, .double X.h, .double X.v, .long X.sm]) rfl dX7_mend_2 ?_
  refine aw_re (P := fun μ1 => RM g K e0 S (X.wth 0) μ1 ∧ FrM K S.nA S.nQ μ μ1) ⟨hM.setX (X.wth 0) rfl rfl rfl, (FrM.rf : FrM K S.nA S.nQ μ μ).mpw (m0 (by decide))⟩ (fun μ1 hq => ?_)
  obtain ⟨hM1, hF1⟩ := hq
  refine aw_aload_n C dX7_mend_5 rfl ?_
  refine aw_iload_n C dX7_mend_6 rfl ?_
  refine aw_callV (n := 1) C hE (ci := 9) (q := (RX7, TX7, 22)) (k_X7_isQuiver (x := x) B hM1 hI) gX7_mend_X7_isQuiver rfl ⟨rfl, rfl⟩ (by decide +kernel) ⟨by decide, by decide⟩ rfl rfl hM1.mo rfl (Nat.le_of_ble_eq_true rfl) dX7_mend_7 ⟨by decide, by decide⟩ (fun v μ' hp => ?_)
  obtain ⟨rfl, hm9⟩ := hp
  replace hm9 := hm9.symm
  subst hm9
  refine aw_st (st' := [.int (if inb x S.nQ = true then 1 else 0)]) rfl ?_
  by_cases b7 : inb x S.nQ = true
  · refine aw_eqi (y := 1) (if_pos b7) ?_
    refine aw_if_ne C (tgt := 19) dX7_mend_10 (by decide) (fun _ => ?_) (fun c9 => absurd c9 (by decide))
    obtain ⟨j, hj, rfl⟩ := inb_of b7 (by have := hI.Q6; omega)
    refine aw_aload_n C dX7_mend_19 rfl ?_
    refine aw_get C f16 hM1.mo rfl dX7_mend_20 ?_
    refine aw_iload_n C dX7_mend_23 rfl ?_
    refine aw_callV (n := 1) C hE (ci := 1) (q := (RJx4a65c, TJx4a65c, 3)) (k_getQ B hM1 hI hj) gX7_mend_Jx4a65c_get_915e3 rfl ⟨rfl, rfl⟩ (by decide +kernel) ⟨by decide, by decide⟩ rfl rfl hM1.qL rfl (Nat.le_of_ble_eq_true rfl) dX7_mend_24 ⟨by decide, by decide⟩ (fun v μ' hp => ?_)
    obtain ⟨rfl, hm9⟩ := hp
    replace hm9 := hm9.symm
    subst hm9
    refine aw_st (st' := [.ref (K 9 j)]) rfl ?_
    refine aw_cast C (ci := 8) (by decide +kernel) (va_Nw.warmC hE.1 B.caXq) rfl (hM1.xq hj) dX7_mend_27 ?_
    refine aw_astore_n C dX7_mend_30 (by decide) ?_
    refine aw_aload_n C dX7_mend_31 rfl ?_
    refine aw_iconst C (v := 3) (by decide) dX7_mend_32 ?_
    refine aw_callV (n := 1) C hE (ci := 8) (q := (RX6, TX6, 5)) (k_X6_set (f := S.F j) (x := 3) B (hM1.xq hj) (hM1.wh hj)) gX7_mend_X6_set rfl ⟨rfl, rfl⟩ (by decide +kernel) ⟨by decide, by decide⟩ rfl rfl (hM1.xq hj) rfl (Nat.le_of_ble_eq_true rfl) dX7_mend_33 ⟨by decide, by decide⟩ (fun v μ' hp => ?_)
    obtain ⟨rfl, hm9⟩ := hp
    replace hm9 := hm9.symm
    subst hm9
    refine aw_st (st' := [.int (setN (S.F j) 3 12)]) rfl ?_
    refine aw_callS (n := 1) C hE (k_J6_bitCount_0f7a4 (x := (setN (S.F j) 3 12)) B) gX7_mend_J6_bitCount_0f7a4 rfl ⟨rfl, rfl⟩ (by decide +kernel) ⟨by decide, by decide⟩ rfl rfl (Nat.le_of_ble_eq_true rfl) dX7_mend_36 ⟨by decide, by decide⟩ (fun v μ' hp => ?_)
    obtain ⟨rfl, hm9⟩ := hp
    replace hm9 := hm9.symm
    subst hm9
    refine aw_st (st' := [.int (bcF (setN (S.F j) 3 12))]) rfl ?_
    refine aw_istore_n C dX7_mend_39 (by decide) ?_
    refine aw_iconst C (v := 0) (by decide) dX7_mend_40 ?_
    refine aw_istore C dX7_mend_41 (by decide) ?_
    refine aw_lv (lv' := [(0, .ref (K 0 0)), (1, .int (nI j)), (2, .ref (K 9 j)), (3, .int (bcF (setN (S.F j) 3 12))), (4, .int 0)]) ⟨rfl, rfl, rfl, rfl, rfl, trivial⟩ ?_
    have loop43 : ∀ (n : Nat) (i : Nat) (xi : Int32) (μk : mu), 12 - i = n → xi = nI i → i ≤ 12 → RM g K e0 (S.wF (fu S.F j (bbF (S.F j) 3 i))) (X.wth 0) μk → FrM K S.nA S.nQ μ μk → Aw p l e (rmOf 4 0 0 180) s m args below meth c Q s0.heap.size D 5 μk 0 0 43 [(0, .ref (K 0 0)), (1, .int (nI j)), (2, .ref (K 9 j)), (3, .int (bcF (setN (S.F j) 3 12))), (4, .int xi)] [] := by
      intro n
      induction n using Nat.strongRecOn with
      | _ n ih =>
        intro i xi μk hn hx hk hMl hFl
        refine aw_iload C dX7_mend_43 rfl ?_
        refine aw_bipush C (v := 12) (by decide) dX7_mend_45 ?_
        refine aw_icmp_ge C (tgt := 75) dX7_mend_47 (by decide) (fun c_47 => ?_) (fun c_47 => ?_)
        · refine aw_iload_n C dX7_mend_75 rfl ?_
          refine aw_iret C hQe ?_ (by omega) (by omega) dX7_mend_76
          have e8 : i = 12 := by have := ge_of (n := 12) hx (by decide) (by omega) c_47; omega
          subst e8
          have hc : meC S (nI j) = 0 := by simp [meC, b7, c_47]
          rw [hc]
          rw [show ix (nI j) = j from ix_nI hj (by have := hI.Q6; omega)]
          exact ⟨⟨_, rfl, fun _ => bc_bb _ _⟩, ⟨X.wth 0, hMl, hR, rfl⟩, hFl⟩
        · have hi : i < 12 := lt_of (n := 12) hx (by decide) (by omega) c_47
          subst hx
          refine aw_aload_n C dX7_mend_50 rfl ?_
          refine aw_getN C hE f163 (hMl.xq hj) rfl dX7_mend_51 ?_
          refine aw_iload C dX7_mend_54 rfl ?_
          refine aw_ialdE C (hMl.wh hj) rfl ⟨hi, by decide⟩ (by show fu S.F j (bbF (S.F j) 3 i) j i = S.F j i; rw [fu_s, bbF_at]) dX7_mend_56 ?_
          refine aw_iconst C (v := 3) (by decide) dX7_mend_57 ?_
          refine aw_icmp_ne C (tgt := 69) dX7_mend_58 (by decide) (fun c_58 => ?_) (fun c_58 => ?_)
          · refine aw_iinc C dX7_mend_69 rfl (by decide) ?_
            refine aw_goto C (tgt := 43) dX7_mend_72 (by decide) ?_
            refine aw_lv (lv' := [(0, .ref (K 0 0)), (1, .int (nI j)), (2, .ref (K 9 j)), (3, .int (bcF (setN (S.F j) 3 12))), (4, .int (nI i + Int32.ofInt 1))]) ⟨rfl, rfl, rfl, rfl, rfl, trivial⟩ ?_
            exact ih _ (by omega) (i + 1) (nI i + Int32.ofInt 1) _ rfl (nI_inc i) (by omega) (by rw [← bbF_n c_58]; exact hMl) hFl
          · refine aw_aload_n C dX7_mend_61 rfl ?_
            refine aw_getN C hE f163 (hMl.xq hj) rfl dX7_mend_62 ?_
            refine aw_iload C dX7_mend_65 rfl ?_
            refine aw_iconst C (v := 0) (by decide) dX7_mend_67 ?_
            refine aw_iastE C (hMl.wh hj) rfl ⟨hi, by decide⟩ dX7_mend_68 ?_
            refine aw_re (P := fun μ1 => RM g K e0 ((S.wF (fu S.F j (bbF (S.F j) 3 i))).wF (fu (S.wF (fu S.F j (bbF (S.F j) 3 i))).F j (upd ((S.wF (fu S.F j (bbF (S.F j) 3 i))).F j) i 0))) (X.wth 0) μ1 ∧ FrM K S.nA S.nQ μ μ1) ⟨hMl.setWh hj (upd ((S.wF (fu S.F j (bbF (S.F j) 3 i))).F j) i 0), hFl.mpw (m9 (by decide) hj)⟩ (fun μ2 hq => ?_)
            obtain ⟨hM2, hF2⟩ := hq
            refine aw_iinc C dX7_mend_69 rfl (by decide) ?_
            refine aw_goto C (tgt := 43) dX7_mend_72 (by decide) ?_
            have h9 := hM2
            rw [wF_wF, show upd ((S.wF (fu S.F j (bbF (S.F j) 3 i))).F j) i 0 = bbF (S.F j) 3 (i + 1) by rw [show (S.wF (fu S.F j (bbF (S.F j) 3 i))).F j = bbF (S.F j) 3 i from fu_s]; exact bbF_y c_58] at h9
            refine aw_lv (lv' := [(0, .ref (K 0 0)), (1, .int (nI j)), (2, .ref (K 9 j)), (3, .int (bcF (setN (S.F j) 3 12))), (4, .int (nI i + Int32.ofInt 1))]) ⟨rfl, rfl, rfl, rfl, rfl, trivial⟩ ?_
            exact ih _ (by omega) (i + 1) (nI i + Int32.ofInt 1) _ rfl (nI_inc i) (by omega) h9 hF2
    exact loop43 _ 0 0 _ rfl rfl (by decide) (by rw [bbF_0, wF_id]; exact hM1) hF1
  · refine aw_eqi (y := 0) (if_neg b7) ?_
    refine aw_if_ne C (tgt := 19) dX7_mend_10 (by decide) (fun c9 => absurd (by decide) c9) (fun _ => ?_)
    refine aw_aload_n C dX7_mend_13 rfl ?_
    refine aw_iconst C (v := 1) (by decide) dX7_mend_14 ?_
    refine aw_callV (n := 1) C hE (ci := 9) (q := (RX7, TX7, 22)) (k_X7_refuse (x := 1) B hM1) gX7_mend_X7_refuse rfl ⟨rfl, rfl⟩ (by decide +kernel) ⟨by decide, by decide⟩ rfl rfl hM1.mo rfl (Nat.le_of_ble_eq_true rfl) dX7_mend_15 ⟨by decide, by decide⟩ (fun v μ' hp => ?_)
    obtain ⟨rfl, hM2, hG2⟩ := hp
    have hF2 : FrM K S.nA S.nQ μ _ := hF1.tr hG2
    refine aw_st (st' := [.int 0]) rfl ?_
    refine aw_iret C hQe ?_ (by omega) (by omega) dX7_mend_18
    have hc : meC S x = 1 := by simp [meC, b7]
    rw [hc]
    exact ⟨⟨_, rfl, fun q => absurd q (by decide)⟩, ⟨(X.wth 0).wth 1, hM2, hR, rfl⟩, hF2⟩
set_option maxRecDepth 100000 in
set_option maxHeartbeats 4000000 in
theorem k_X7_match (B : Base s0) {μ : mu} {K : Nat → Nat → Nat} {e0 : Nat} {S : SS} {X : XS} (hM : RM g K e0 S X μ) (hI : Iv S) {b : Nat} (hR : MR S X b) {x y : Int32} : Ct l yX7_match wsX7_match (rmOf 4 0 0 180) s0 D (tyL g) [.ref (K 0 0), .int x, .int y] μ 0 0 (fun v9 μ' => (∃ r : Int32, v9 = some (.int r) ∧ (maC S x y = 0 → r = S.c 13 + 1)) ∧ PMx g K e0 S (maS S x y) (maC S x y) b μ μ') := by
  refine Ct.of (cc := cX7_match) (own := RX7) (maxL := 4) (ret := (some .int)) (by decide) rfl rfl (Nat.le_of_ble_eq_true rfl) ?_
  intro p e s m args below meth c Q C hE hnm hQe
  have in_RX7 : ∀ w ∈ u_ws RX7 TX7 22, w ∈ wsX7_match := by decide +kernel
  have in_RX5 : ∀ w ∈ u_ws RX5 TX5 12, w ∈ wsX7_match := by decide +kernel
  have f39 : FL wsX7_match RX7 39 9 "ArrowFieldModel" RX7 TX7 22 0 := ⟨in_RX7, rfl, by decide, by decide +kernel, Or.inl rfl⟩
  have f10 : FL wsX7_match RX7 10 9 "ArrowFieldModel" RX7 TX7 22 1 := ⟨in_RX7, rfl, by decide, by decide +kernel, Or.inl rfl⟩
  have f56 : FN s0 wsX7_match RX7 56 7 "ArrowFieldModel$Archer" RX5 TX5 12 5 "ArrowFieldModel" := ⟨in_RX5, rfl, by decide, B.fnRX7_56, rfl⟩
  have f29 : FL wsX7_match RX7 29 9 "ArrowFieldModel" RX7 TX7 22 13 := ⟨in_RX7, rfl, by decide, by decide +kernel, Or.inl rfl⟩
  have f33 : FL wsX7_match RX7 33 9 "ArrowFieldModel" RX7 TX7 22 14 := ⟨in_RX7, rfl, by decide, by decide +kernel, Or.inl rfl⟩
  have f36 : FL wsX7_match RX7 36 9 "ArrowFieldModel" RX7 TX7 22 15 := ⟨in_RX7, rfl, by decide, by decide +kernel, Or.inl rfl⟩
  have f186 : FL wsX7_match RX7 186 9 "ArrowFieldModel" RX7 TX7 22 17 := ⟨in_RX7, rfl, by decide, by decide +kernel, Or.inl rfl⟩
  have f237 : FL wsX7_match RX7 237 9 "ArrowFieldModel" RX7 TX7 22 18 := ⟨in_RX7, rfl, by decide, by decide +kernel, Or.inl rfl⟩
  have f250 : FL wsX7_match RX7 250 9 "ArrowFieldModel" RX7 TX7 22 9 := ⟨in_RX7, rfl, by decide, by decide +kernel, Or.inl rfl⟩
  refine aw_aload_n C dX7_match_0 rfl ?_
  refine aw_iconst C (v := 0) (by decide) dX7_match_1 ?_
  refine aw_putE C f39 ftX7 (ty := .int) (by decide +kernel) rfl rfl hM.mo (Nat.le_of_ble_eq_true rfl) (fs' := [.int 0, .ref (K 1 0), .ref (K 2 0), .int (S.c 4), .int (S.c 5), .int (S.c 6), .int (S.c 9), .int (S.c 10), .int (S.c 8), .int (S.c 13), .int (S.c 7), .int (S.c 11), .int (S.c 14), .ref (K 3 0), .ref (K 4 0), .ref (K 5 0), .double X.ne, .int (nI X.T), .int X.il, .double X.h, .double X.v, .long X.sm]) rfl dX7_match_2 ?_
  refine aw_re (P := fun μ1 => RM g K e0 S (X.wth 0) μ1 ∧ FrM K S.nA S.nQ μ μ1) ⟨hM.setX (X.wth 0) rfl rfl rfl, (FrM.rf : FrM K S.nA S.nQ μ μ).mpw (m0 (by decide))⟩ (fun μ1 hq => ?_)
  obtain ⟨hM1, hF1⟩ := hq
  refine aw_aload_n C dX7_match_5 rfl ?_
  refine aw_iload_n C dX7_match_6 rfl ?_
  refine aw_callV (n := 1) C hE (ci := 9) (q := (RX7, TX7, 22)) (k_X7_isArcher (x := x) B hM1 hI) gX7_match_X7_isArcher rfl ⟨rfl, rfl⟩ (by decide +kernel) ⟨by decide, by decide⟩ rfl rfl hM1.mo rfl (Nat.le_of_ble_eq_true rfl) dX7_match_7 ⟨by decide, by decide⟩ (fun v μ' hp => ?_)
  obtain ⟨rfl, hm9⟩ := hp
  replace hm9 := hm9.symm
  subst hm9
  refine aw_st (st' := [.int (if inb x S.nA = true then 1 else 0)]) rfl ?_
  by_cases b7 : inb x S.nA = true
  · refine aw_eqi (y := 1) (if_pos b7) ?_
    refine aw_if_eq C (tgt := 21) dX7_match_10 (by decide) (fun c9 => absurd c9 (by decide)) (fun _ => ?_)
    refine aw_aload_n C dX7_match_13 rfl ?_
    refine aw_iload_n C dX7_match_14 rfl ?_
    refine aw_callV (n := 1) C hE (ci := 9) (q := (RX7, TX7, 22)) (k_X7_isArcher (x := y) B hM1 hI) gX7_match_X7_isArcher rfl ⟨rfl, rfl⟩ (by decide +kernel) ⟨by decide, by decide⟩ rfl rfl hM1.mo rfl (Nat.le_of_ble_eq_true rfl) dX7_match_15 ⟨by decide, by decide⟩ (fun v μ' hp => ?_)
    obtain ⟨rfl, hm9⟩ := hp
    replace hm9 := hm9.symm
    subst hm9
    refine aw_st (st' := [.int (if inb y S.nA = true then 1 else 0)]) rfl ?_
    by_cases b15 : inb y S.nA = true
    · refine aw_eqi (y := 1) (if_pos b15) ?_
      refine aw_if_ne C (tgt := 27) dX7_match_18 (by decide) (fun _ => ?_) (fun c9 => absurd c9 (by decide))
      obtain ⟨j, hj, rfl⟩ := inb_of b7 (by have := hI.A6; omega)
      obtain ⟨k, hk, rfl⟩ := inb_of b15 (by have := hI.A6; omega)
      refine aw_iload_n C dX7_match_27 rfl ?_
      refine aw_iload_n C dX7_match_28 rfl ?_
      refine aw_icmp_ne C (tgt := 38) dX7_match_29 (by decide) (fun c_29 => ?_) (fun c_29 => ?_)
      · refine aw_aload_n C dX7_match_38 rfl ?_
        refine aw_callV (n := 0) C hE (ci := 9) (q := (RX7, TX7, 22)) (k_X7_isOn B hM1 hI hR) gX7_match_X7_isOn rfl ⟨rfl, rfl⟩ (by decide +kernel) ⟨by decide, by decide⟩ rfl rfl hM1.mo rfl (Nat.le_of_ble_eq_true rfl) dX7_match_39 ⟨by decide, by decide⟩ (fun v μ' hp => ?_)
        obtain ⟨rfl, hm9⟩ := hp
        replace hm9 := hm9.symm
        subst hm9
        refine aw_st (st' := [.int (if S.t 0 = 0 then 0 else 1)]) rfl ?_
        by_cases b39 : S.t 0 = 0
        · refine aw_eqi (y := 0) (if_pos b39) ?_
          refine aw_if_ne C (tgt := 81) dX7_match_42 (by decide) (fun c9 => absurd (by decide) c9) (fun _ => ?_)
          refine aw_aload_n C dX7_match_45 rfl ?_
          refine aw_get C f10 hM1.mo rfl dX7_match_46 ?_
          refine aw_iload_n C dX7_match_49 rfl ?_
          refine aw_callV (n := 1) C hE (ci := 1) (q := (RJx4a65c, TJx4a65c, 3)) (k_getA B hM1 hI hj) gX7_match_Jx4a65c_get_915e3 rfl ⟨rfl, rfl⟩ (by decide +kernel) ⟨by decide, by decide⟩ rfl rfl hM1.aL rfl (Nat.le_of_ble_eq_true rfl) dX7_match_50 ⟨by decide, by decide⟩ (fun v μ' hp => ?_)
          obtain ⟨rfl, hm9⟩ := hp
          replace hm9 := hm9.symm
          subst hm9
          refine aw_st (st' := [.ref (K 8 j)]) rfl ?_
          refine aw_cast C (ci := 7) (by decide +kernel) (va_Nw.warmC hE.1 B.caXa) rfl (hM1.xa hj) dX7_match_53 ?_
          refine aw_getN C hE f56 (hM1.xa hj) rfl dX7_match_56 ?_
          refine aw_iconst C (v := (-1)) (by decide) dX7_match_59 ?_
          refine aw_icmp_eq C (tgt := 81) dX7_match_60 (by decide) (fun c_60 => ?_) (fun c_60 => ?_)
          · refine aw_aload_n C dX7_match_81 rfl ?_
            refine aw_iconst C (v := 3) (by decide) dX7_match_82 ?_
            refine aw_callV (n := 1) C hE (ci := 9) (q := (RX7, TX7, 22)) (k_X7_refuse (x := 3) B hM1) gX7_match_X7_refuse rfl ⟨rfl, rfl⟩ (by decide +kernel) ⟨by decide, by decide⟩ rfl rfl hM1.mo rfl (Nat.le_of_ble_eq_true rfl) dX7_match_83 ⟨by decide, by decide⟩ (fun v μ' hp => ?_)
            obtain ⟨rfl, hM2, hG2⟩ := hp
            have hF2 : FrM K S.nA S.nQ μ _ := hF1.tr hG2
            refine aw_st (st' := [.int 0]) rfl ?_
            refine aw_iret C hQe ?_ (by omega) (by omega) dX7_match_86
            have ej6 : ix (nI j) = j := ix_nI hj (by have := hI.A6; omega)
            have ek6 : ix (nI k) = k := ix_nI hk (by have := hI.A6; omega)
            have hc : maC S (nI j) (nI k) = 3 := by simp [maC, b7, b15, c_29, b39, c_60, ej6, ek6]
            rw [hc]
            exact ⟨⟨_, rfl, fun q => absurd q (by decide)⟩, ⟨(X.wth 0).wth 3, hM2, hR, rfl⟩, hF2⟩
          · refine aw_aload_n C dX7_match_63 rfl ?_
            refine aw_get C f10 hM1.mo rfl dX7_match_64 ?_
            refine aw_iload_n C dX7_match_67 rfl ?_
            refine aw_callV (n := 1) C hE (ci := 1) (q := (RJx4a65c, TJx4a65c, 3)) (k_getA B hM1 hI hk) gX7_match_Jx4a65c_get_915e3 rfl ⟨rfl, rfl⟩ (by decide +kernel) ⟨by decide, by decide⟩ rfl rfl hM1.aL rfl (Nat.le_of_ble_eq_true rfl) dX7_match_68 ⟨by decide, by decide⟩ (fun v μ' hp => ?_)
            obtain ⟨rfl, hm9⟩ := hp
            replace hm9 := hm9.symm
            subst hm9
            refine aw_st (st' := [.ref (K 8 k)]) rfl ?_
            refine aw_cast C (ci := 7) (by decide +kernel) (va_Nw.warmC hE.1 B.caXa) rfl (hM1.xa hk) dX7_match_71 ?_
            refine aw_getN C hE f56 (hM1.xa hk) rfl dX7_match_74 ?_
            refine aw_iconst C (v := (-1)) (by decide) dX7_match_77 ?_
            refine aw_icmp_ne C (tgt := 87) dX7_match_78 (by decide) (fun c_78 => ?_) (fun c_78 => ?_)
            · refine aw_aload_n C dX7_match_87 rfl ?_
              refine aw_get C f29 hM1.mo rfl dX7_match_88 ?_
              refine aw_iconst C (v := 0) (by decide) dX7_match_91 ?_
              refine aw_iload_n C dX7_match_92 rfl ?_
              refine aw_iastE C hM1.pa (by decide : (0 : Int32) = nI 0) ⟨by decide, by decide⟩ dX7_match_93 ?_
              refine aw_re (P := fun μ1 => RM g K e0 S ((X.wth 0).wpa (upd (X.wth 0).pa 0 (nI j))) μ1 ∧ FrM K S.nA S.nQ μ μ1) ⟨hM1.setPa (upd (X.wth 0).pa 0 (nI j)), hF1.mpw (m0 (by decide))⟩ (fun μ2 hq => ?_)
              obtain ⟨hM2, hF2⟩ := hq
              refine aw_aload_n C dX7_match_94 rfl ?_
              refine aw_get C f29 hM2.mo rfl dX7_match_95 ?_
              refine aw_iconst C (v := 1) (by decide) dX7_match_98 ?_
              refine aw_iload_n C dX7_match_99 rfl ?_
              refine aw_iastE C hM2.pa (by decide : (1 : Int32) = nI 1) ⟨by decide, by decide⟩ dX7_match_100 ?_
              refine aw_re (P := fun μ1 => RM g K e0 S (((X.wth 0).wpa (upd (X.wth 0).pa 0 (nI j))).wpa (upd ((X.wth 0).wpa (upd (X.wth 0).pa 0 (nI j))).pa 1 (nI k))) μ1 ∧ FrM K S.nA S.nQ μ μ1) ⟨hM2.setPa (upd ((X.wth 0).wpa (upd (X.wth 0).pa 0 (nI j))).pa 1 (nI k)), hF2.mpw (m0 (by decide))⟩ (fun μ3 hq => ?_)
              obtain ⟨hM3, hF3⟩ := hq
              refine aw_iconst C (v := 0) (by decide) dX7_match_101 ?_
              refine aw_istore_n C dX7_match_102 (by decide) ?_
              refine aw_iload_n C dX7_match_103 rfl ?_
              refine aw_iconst C (v := 2) (by decide) dX7_match_104 ?_
              refine aw_icmp_ge C (tgt := 128) dX7_match_105 (by decide) (fun c9 => absurd c9 (by decide)) (fun _ => ?_)
              refine aw_aload_n C dX7_match_108 rfl ?_
              refine aw_get C f33 hM3.mo rfl dX7_match_109 ?_
              refine aw_iload_n C dX7_match_112 rfl ?_
              refine aw_iconst C (v := 0) (by decide) dX7_match_113 ?_
              refine aw_iastE C hM3.po (by decide : (0 : Int32) = nI 0) ⟨by decide, by decide⟩ dX7_match_114 ?_
              refine aw_re (P := fun μ1 => RM g K e0 S ((((X.wth 0).wpa (upd (X.wth 0).pa 0 (nI j))).wpa (upd ((X.wth 0).wpa (upd (X.wth 0).pa 0 (nI j))).pa 1 (nI k))).wpo (upd (((X.wth 0).wpa (upd (X.wth 0).pa 0 (nI j))).wpa (upd ((X.wth 0).wpa (upd (X.wth 0).pa 0 (nI j))).pa 1 (nI k))).po 0 0)) μ1 ∧ FrM K S.nA S.nQ μ μ1) ⟨hM3.setPo (upd (((X.wth 0).wpa (upd (X.wth 0).pa 0 (nI j))).wpa (upd ((X.wth 0).wpa (upd (X.wth 0).pa 0 (nI j))).pa 1 (nI k))).po 0 0), hF3.mpw (m0 (by decide))⟩ (fun μ4 hq => ?_)
              obtain ⟨hM4, hF4⟩ := hq
              refine aw_aload_n C dX7_match_115 rfl ?_
              refine aw_get C f36 hM4.mo rfl dX7_match_116 ?_
              refine aw_iload_n C dX7_match_119 rfl ?_
              refine aw_iconst C (v := 0) (by decide) dX7_match_120 ?_
              refine aw_iastE C hM4.su (by decide : (0 : Int32) = nI 0) ⟨by decide, by decide⟩ dX7_match_121 ?_
              refine aw_re (P := fun μ1 => RM g K e0 S (((((X.wth 0).wpa (upd (X.wth 0).pa 0 (nI j))).wpa (upd ((X.wth 0).wpa (upd (X.wth 0).pa 0 (nI j))).pa 1 (nI k))).wpo (upd (((X.wth 0).wpa (upd (X.wth 0).pa 0 (nI j))).wpa (upd ((X.wth 0).wpa (upd (X.wth 0).pa 0 (nI j))).pa 1 (nI k))).po 0 0)).wsu (upd ((((X.wth 0).wpa (upd (X.wth 0).pa 0 (nI j))).wpa (upd ((X.wth 0).wpa (upd (X.wth 0).pa 0 (nI j))).pa 1 (nI k))).wpo (upd (((X.wth 0).wpa (upd (X.wth 0).pa 0 (nI j))).wpa (upd ((X.wth 0).wpa (upd (X.wth 0).pa 0 (nI j))).pa 1 (nI k))).po 0 0)).su 0 0)) μ1 ∧ FrM K S.nA S.nQ μ μ1) ⟨hM4.setSu (upd ((((X.wth 0).wpa (upd (X.wth 0).pa 0 (nI j))).wpa (upd ((X.wth 0).wpa (upd (X.wth 0).pa 0 (nI j))).pa 1 (nI k))).wpo (upd (((X.wth 0).wpa (upd (X.wth 0).pa 0 (nI j))).wpa (upd ((X.wth 0).wpa (upd (X.wth 0).pa 0 (nI j))).pa 1 (nI k))).po 0 0)).su 0 0), hF4.mpw (m0 (by decide))⟩ (fun μ5 hq => ?_)
              obtain ⟨hM5, hF5⟩ := hq
              refine aw_iinc C dX7_match_122 rfl (by decide) ?_
              refine aw_lv (lv' := [(0, .ref (K 0 0)), (1, .int (nI j)), (2, .int (nI k)), (3, .int 1)]) ⟨rfl, rfl, rfl, rfl, trivial⟩ ?_
              refine aw_goto C (tgt := 103) dX7_match_125 (by decide) ?_
              refine aw_iload_n C dX7_match_103 rfl ?_
              refine aw_iconst C (v := 2) (by decide) dX7_match_104 ?_
              refine aw_icmp_ge C (tgt := 128) dX7_match_105 (by decide) (fun c9 => absurd c9 (by decide)) (fun _ => ?_)
              refine aw_aload_n C dX7_match_108 rfl ?_
              refine aw_get C f33 hM5.mo rfl dX7_match_109 ?_
              refine aw_iload_n C dX7_match_112 rfl ?_
              refine aw_iconst C (v := 0) (by decide) dX7_match_113 ?_
              refine aw_iastE C hM5.po (by decide : (1 : Int32) = nI 1) ⟨by decide, by decide⟩ dX7_match_114 ?_
              refine aw_re (P := fun μ1 => RM g K e0 S ((((((X.wth 0).wpa (upd (X.wth 0).pa 0 (nI j))).wpa (upd ((X.wth 0).wpa (upd (X.wth 0).pa 0 (nI j))).pa 1 (nI k))).wpo (upd (((X.wth 0).wpa (upd (X.wth 0).pa 0 (nI j))).wpa (upd ((X.wth 0).wpa (upd (X.wth 0).pa 0 (nI j))).pa 1 (nI k))).po 0 0)).wsu (upd ((((X.wth 0).wpa (upd (X.wth 0).pa 0 (nI j))).wpa (upd ((X.wth 0).wpa (upd (X.wth 0).pa 0 (nI j))).pa 1 (nI k))).wpo (upd (((X.wth 0).wpa (upd (X.wth 0).pa 0 (nI j))).wpa (upd ((X.wth 0).wpa (upd (X.wth 0).pa 0 (nI j))).pa 1 (nI k))).po 0 0)).su 0 0)).wpo (upd (((((X.wth 0).wpa (upd (X.wth 0).pa 0 (nI j))).wpa (upd ((X.wth 0).wpa (upd (X.wth 0).pa 0 (nI j))).pa 1 (nI k))).wpo (upd (((X.wth 0).wpa (upd (X.wth 0).pa 0 (nI j))).wpa (upd ((X.wth 0).wpa (upd (X.wth 0).pa 0 (nI j))).pa 1 (nI k))).po 0 0)).wsu (upd ((((X.wth 0).wpa (upd (X.wth 0).pa 0 (nI j))).wpa (upd ((X.wth 0).wpa (upd (X.wth 0).pa 0 (nI j))).pa 1 (nI k))).wpo (upd (((X.wth 0).wpa (upd (X.wth 0).pa 0 (nI j))).wpa (upd ((X.wth 0).wpa (upd (X.wth 0).pa 0 (nI j))).pa 1 (nI k))).po 0 0)).su 0 0)).po 1 0)) μ1 ∧ FrM K S.nA S.nQ μ μ1) ⟨hM5.setPo (upd (((((X.wth 0).wpa (upd (X.wth 0).pa 0 (nI j))).wpa (upd ((X.wth 0).wpa (upd (X.wth 0).pa 0 (nI j))).pa 1 (nI k))).wpo (upd (((X.wth 0).wpa (upd (X.wth 0).pa 0 (nI j))).wpa (upd ((X.wth 0).wpa (upd (X.wth 0).pa 0 (nI j))).pa 1 (nI k))).po 0 0)).wsu (upd ((((X.wth 0).wpa (upd (X.wth 0).pa 0 (nI j))).wpa (upd ((X.wth 0).wpa (upd (X.wth 0).pa 0 (nI j))).pa 1 (nI k))).wpo (upd (((X.wth 0).wpa (upd (X.wth 0).pa 0 (nI j))).wpa (upd ((X.wth 0).wpa (upd (X.wth 0).pa 0 (nI j))).pa 1 (nI k))).po 0 0)).su 0 0)).po 1 0), hF5.mpw (m0 (by decide))⟩ (fun μ6 hq => ?_)
              obtain ⟨hM6, hF6⟩ := hq
              refine aw_aload_n C dX7_match_115 rfl ?_
              refine aw_get C f36 hM6.mo rfl dX7_match_116 ?_
              refine aw_iload_n C dX7_match_119 rfl ?_
              refine aw_iconst C (v := 0) (by decide) dX7_match_120 ?_
              refine aw_iastE C hM6.su (by decide : (1 : Int32) = nI 1) ⟨by decide, by decide⟩ dX7_match_121 ?_
              refine aw_re (P := fun μ1 => RM g K e0 S (((((((X.wth 0).wpa (upd (X.wth 0).pa 0 (nI j))).wpa (upd ((X.wth 0).wpa (upd (X.wth 0).pa 0 (nI j))).pa 1 (nI k))).wpo (upd (((X.wth 0).wpa (upd (X.wth 0).pa 0 (nI j))).wpa (upd ((X.wth 0).wpa (upd (X.wth 0).pa 0 (nI j))).pa 1 (nI k))).po 0 0)).wsu (upd ((((X.wth 0).wpa (upd (X.wth 0).pa 0 (nI j))).wpa (upd ((X.wth 0).wpa (upd (X.wth 0).pa 0 (nI j))).pa 1 (nI k))).wpo (upd (((X.wth 0).wpa (upd (X.wth 0).pa 0 (nI j))).wpa (upd ((X.wth 0).wpa (upd (X.wth 0).pa 0 (nI j))).pa 1 (nI k))).po 0 0)).su 0 0)).wpo (upd (((((X.wth 0).wpa (upd (X.wth 0).pa 0 (nI j))).wpa (upd ((X.wth 0).wpa (upd (X.wth 0).pa 0 (nI j))).pa 1 (nI k))).wpo (upd (((X.wth 0).wpa (upd (X.wth 0).pa 0 (nI j))).wpa (upd ((X.wth 0).wpa (upd (X.wth 0).pa 0 (nI j))).pa 1 (nI k))).po 0 0)).wsu (upd ((((X.wth 0).wpa (upd (X.wth 0).pa 0 (nI j))).wpa (upd ((X.wth 0).wpa (upd (X.wth 0).pa 0 (nI j))).pa 1 (nI k))).wpo (upd (((X.wth 0).wpa (upd (X.wth 0).pa 0 (nI j))).wpa (upd ((X.wth 0).wpa (upd (X.wth 0).pa 0 (nI j))).pa 1 (nI k))).po 0 0)).su 0 0)).po 1 0)).wsu (upd ((((((X.wth 0).wpa (upd (X.wth 0).pa 0 (nI j))).wpa (upd ((X.wth 0).wpa (upd (X.wth 0).pa 0 (nI j))).pa 1 (nI k))).wpo (upd (((X.wth 0).wpa (upd (X.wth 0).pa 0 (nI j))).wpa (upd ((X.wth 0).wpa (upd (X.wth 0).pa 0 (nI j))).pa 1 (nI k))).po 0 0)).wsu (upd ((((X.wth 0).wpa (upd (X.wth 0).pa 0 (nI j))).wpa (upd ((X.wth 0).wpa (upd (X.wth 0).pa 0 (nI j))).pa 1 (nI k))).wpo (upd (((X.wth 0).wpa (upd (X.wth 0).pa 0 (nI j))).wpa (upd ((X.wth 0).wpa (upd (X.wth 0).pa 0 (nI j))).pa 1 (nI k))).po 0 0)).su 0 0)).wpo (upd (((((X.wth 0).wpa (upd (X.wth 0).pa 0 (nI j))).wpa (upd ((X.wth 0).wpa (upd (X.wth 0).pa 0 (nI j))).pa 1 (nI k))).wpo (upd (((X.wth 0).wpa (upd (X.wth 0).pa 0 (nI j))).wpa (upd ((X.wth 0).wpa (upd (X.wth 0).pa 0 (nI j))).pa 1 (nI k))).po 0 0)).wsu (upd ((((X.wth 0).wpa (upd (X.wth 0).pa 0 (nI j))).wpa (upd ((X.wth 0).wpa (upd (X.wth 0).pa 0 (nI j))).pa 1 (nI k))).wpo (upd (((X.wth 0).wpa (upd (X.wth 0).pa 0 (nI j))).wpa (upd ((X.wth 0).wpa (upd (X.wth 0).pa 0 (nI j))).pa 1 (nI k))).po 0 0)).su 0 0)).po 1 0)).su 1 0)) μ1 ∧ FrM K S.nA S.nQ μ μ1) ⟨hM6.setSu (upd ((((((X.wth 0).wpa (upd (X.wth 0).pa 0 (nI j))).wpa (upd ((X.wth 0).wpa (upd (X.wth 0).pa 0 (nI j))).pa 1 (nI k))).wpo (upd (((X.wth 0).wpa (upd (X.wth 0).pa 0 (nI j))).wpa (upd ((X.wth 0).wpa (upd (X.wth 0).pa 0 (nI j))).pa 1 (nI k))).po 0 0)).wsu (upd ((((X.wth 0).wpa (upd (X.wth 0).pa 0 (nI j))).wpa (upd ((X.wth 0).wpa (upd (X.wth 0).pa 0 (nI j))).pa 1 (nI k))).wpo (upd (((X.wth 0).wpa (upd (X.wth 0).pa 0 (nI j))).wpa (upd ((X.wth 0).wpa (upd (X.wth 0).pa 0 (nI j))).pa 1 (nI k))).po 0 0)).su 0 0)).wpo (upd (((((X.wth 0).wpa (upd (X.wth 0).pa 0 (nI j))).wpa (upd ((X.wth 0).wpa (upd (X.wth 0).pa 0 (nI j))).pa 1 (nI k))).wpo (upd (((X.wth 0).wpa (upd (X.wth 0).pa 0 (nI j))).wpa (upd ((X.wth 0).wpa (upd (X.wth 0).pa 0 (nI j))).pa 1 (nI k))).po 0 0)).wsu (upd ((((X.wth 0).wpa (upd (X.wth 0).pa 0 (nI j))).wpa (upd ((X.wth 0).wpa (upd (X.wth 0).pa 0 (nI j))).pa 1 (nI k))).wpo (upd (((X.wth 0).wpa (upd (X.wth 0).pa 0 (nI j))).wpa (upd ((X.wth 0).wpa (upd (X.wth 0).pa 0 (nI j))).pa 1 (nI k))).po 0 0)).su 0 0)).po 1 0)).su 1 0), hF6.mpw (m0 (by decide))⟩ (fun μ7 hq => ?_)
              obtain ⟨hM7, hF7⟩ := hq
              refine aw_iinc C dX7_match_122 rfl (by decide) ?_
              refine aw_lv (lv' := [(0, .ref (K 0 0)), (1, .int (nI j)), (2, .int (nI k)), (3, .int 2)]) ⟨rfl, rfl, rfl, rfl, trivial⟩ ?_
              refine aw_goto C (tgt := 103) dX7_match_125 (by decide) ?_
              refine aw_iload_n C dX7_match_103 rfl ?_
              refine aw_iconst C (v := 2) (by decide) dX7_match_104 ?_
              refine aw_icmp_ge C (tgt := 128) dX7_match_105 (by decide) (fun _ => ?_) (fun c9 => absurd (by decide) c9)
              refine aw_aload_n C dX7_match_128 rfl ?_
              refine aw_iconst C (v := 0) (by decide) dX7_match_129 ?_
              refine aw_eqi (y := nI 0) rfl ?_
              refine aw_putE C f186 ftX7 (ty := .int) (by decide +kernel) rfl rfl hM7.mo (Nat.le_of_ble_eq_true rfl) (fs' := [.int ((((((((X.wth 0).wpa (upd (X.wth 0).pa 0 (nI j))).wpa (upd ((X.wth 0).wpa (upd (X.wth 0).pa 0 (nI j))).pa 1 (nI k))).wpo (upd (((X.wth 0).wpa (upd (X.wth 0).pa 0 (nI j))).wpa (upd ((X.wth 0).wpa (upd (X.wth 0).pa 0 (nI j))).pa 1 (nI k))).po 0 0)).wsu (upd ((((X.wth 0).wpa (upd (X.wth 0).pa 0 (nI j))).wpa (upd ((X.wth 0).wpa (upd (X.wth 0).pa 0 (nI j))).pa 1 (nI k))).wpo (upd (((X.wth 0).wpa (upd (X.wth 0).pa 0 (nI j))).wpa (upd ((X.wth 0).wpa (upd (X.wth 0).pa 0 (nI j))).pa 1 (nI k))).po 0 0)).su 0 0)).wpo (upd (((((X.wth 0).wpa (upd (X.wth 0).pa 0 (nI j))).wpa (upd ((X.wth 0).wpa (upd (X.wth 0).pa 0 (nI j))).pa 1 (nI k))).wpo (upd (((X.wth 0).wpa (upd (X.wth 0).pa 0 (nI j))).wpa (upd ((X.wth 0).wpa (upd (X.wth 0).pa 0 (nI j))).pa 1 (nI k))).po 0 0)).wsu (upd ((((X.wth 0).wpa (upd (X.wth 0).pa 0 (nI j))).wpa (upd ((X.wth 0).wpa (upd (X.wth 0).pa 0 (nI j))).pa 1 (nI k))).wpo (upd (((X.wth 0).wpa (upd (X.wth 0).pa 0 (nI j))).wpa (upd ((X.wth 0).wpa (upd (X.wth 0).pa 0 (nI j))).pa 1 (nI k))).po 0 0)).su 0 0)).po 1 0)).wsu (upd ((((((X.wth 0).wpa (upd (X.wth 0).pa 0 (nI j))).wpa (upd ((X.wth 0).wpa (upd (X.wth 0).pa 0 (nI j))).pa 1 (nI k))).wpo (upd (((X.wth 0).wpa (upd (X.wth 0).pa 0 (nI j))).wpa (upd ((X.wth 0).wpa (upd (X.wth 0).pa 0 (nI j))).pa 1 (nI k))).po 0 0)).wsu (upd ((((X.wth 0).wpa (upd (X.wth 0).pa 0 (nI j))).wpa (upd ((X.wth 0).wpa (upd (X.wth 0).pa 0 (nI j))).pa 1 (nI k))).wpo (upd (((X.wth 0).wpa (upd (X.wth 0).pa 0 (nI j))).wpa (upd ((X.wth 0).wpa (upd (X.wth 0).pa 0 (nI j))).pa 1 (nI k))).po 0 0)).su 0 0)).wpo (upd (((((X.wth 0).wpa (upd (X.wth 0).pa 0 (nI j))).wpa (upd ((X.wth 0).wpa (upd (X.wth 0).pa 0 (nI j))).pa 1 (nI k))).wpo (upd (((X.wth 0).wpa (upd (X.wth 0).pa 0 (nI j))).wpa (upd ((X.wth 0).wpa (upd (X.wth 0).pa 0 (nI j))).pa 1 (nI k))).po 0 0)).wsu (upd ((((X.wth 0).wpa (upd (X.wth 0).pa 0 (nI j))).wpa (upd ((X.wth 0).wpa (upd (X.wth 0).pa 0 (nI j))).pa 1 (nI k))).wpo (upd (((X.wth 0).wpa (upd (X.wth 0).pa 0 (nI j))).wpa (upd ((X.wth 0).wpa (upd (X.wth 0).pa 0 (nI j))).pa 1 (nI k))).po 0 0)).su 0 0)).po 1 0)).su 1 0)).th), .ref (K 1 0), .ref (K 2 0), .int (S.c 4), .int (S.c 5), .int (S.c 6), .int (S.c 9), .int (S.c 10), .int (S.c 8), .int (S.c 13), .int (S.c 7), .int (S.c 11), .int (S.c 14), .ref (K 3 0), .ref (K 4 0), .ref (K 5 0), .double ((((((((X.wth 0).wpa (upd (X.wth 0).pa 0 (nI j))).wpa (upd ((X.wth 0).wpa (upd (X.wth 0).pa 0 (nI j))).pa 1 (nI k))).wpo (upd (((X.wth 0).wpa (upd (X.wth 0).pa 0 (nI j))).wpa (upd ((X.wth 0).wpa (upd (X.wth 0).pa 0 (nI j))).pa 1 (nI k))).po 0 0)).wsu (upd ((((X.wth 0).wpa (upd (X.wth 0).pa 0 (nI j))).wpa (upd ((X.wth 0).wpa (upd (X.wth 0).pa 0 (nI j))).pa 1 (nI k))).wpo (upd (((X.wth 0).wpa (upd (X.wth 0).pa 0 (nI j))).wpa (upd ((X.wth 0).wpa (upd (X.wth 0).pa 0 (nI j))).pa 1 (nI k))).po 0 0)).su 0 0)).wpo (upd (((((X.wth 0).wpa (upd (X.wth 0).pa 0 (nI j))).wpa (upd ((X.wth 0).wpa (upd (X.wth 0).pa 0 (nI j))).pa 1 (nI k))).wpo (upd (((X.wth 0).wpa (upd (X.wth 0).pa 0 (nI j))).wpa (upd ((X.wth 0).wpa (upd (X.wth 0).pa 0 (nI j))).pa 1 (nI k))).po 0 0)).wsu (upd ((((X.wth 0).wpa (upd (X.wth 0).pa 0 (nI j))).wpa (upd ((X.wth 0).wpa (upd (X.wth 0).pa 0 (nI j))).pa 1 (nI k))).wpo (upd (((X.wth 0).wpa (upd (X.wth 0).pa 0 (nI j))).wpa (upd ((X.wth 0).wpa (upd (X.wth 0).pa 0 (nI j))).pa 1 (nI k))).po 0 0)).su 0 0)).po 1 0)).wsu (upd ((((((X.wth 0).wpa (upd (X.wth 0).pa 0 (nI j))).wpa (upd ((X.wth 0).wpa (upd (X.wth 0).pa 0 (nI j))).pa 1 (nI k))).wpo (upd (((X.wth 0).wpa (upd (X.wth 0).pa 0 (nI j))).wpa (upd ((X.wth 0).wpa (upd (X.wth 0).pa 0 (nI j))).pa 1 (nI k))).po 0 0)).wsu (upd ((((X.wth 0).wpa (upd (X.wth 0).pa 0 (nI j))).wpa (upd ((X.wth 0).wpa (upd (X.wth 0).pa 0 (nI j))).pa 1 (nI k))).wpo (upd (((X.wth 0).wpa (upd (X.wth 0).pa 0 (nI j))).wpa (upd ((X.wth 0).wpa (upd (X.wth 0).pa 0 (nI j))).pa 1 (nI k))).po 0 0)).su 0 0)).wpo (upd (((((X.wth 0).wpa (upd (X.wth 0).pa 0 (nI j))).wpa (upd ((X.wth 0).wpa (upd (X.wth 0).pa 0 (nI j))).pa 1 (nI k))).wpo (upd (((X.wth 0).wpa (upd (X.wth 0).pa 0 (nI j))).wpa (upd ((X.wth 0).wpa (upd (X.wth 0).pa 0 (nI j))).pa 1 (nI k))).po 0 0)).wsu (upd ((((X.wth 0).wpa (upd (X.wth 0).pa 0 (nI j))).wpa (upd ((X.wth 0).wpa (upd (X.wth 0).pa 0 (nI j))).pa 1 (nI k))).wpo (upd (((X.wth 0).wpa (upd (X.wth 0).pa 0 (nI j))).wpa (upd ((X.wth 0).wpa (upd (X.wth 0).pa 0 (nI j))).pa 1 (nI k))).po 0 0)).su 0 0)).po 1 0)).su 1 0)).ne), .int (nI 0), .int ((((((((X.wth 0).wpa (upd (X.wth 0).pa 0 (nI j))).wpa (upd ((X.wth 0).wpa (upd (X.wth 0).pa 0 (nI j))).pa 1 (nI k))).wpo (upd (((X.wth 0).wpa (upd (X.wth 0).pa 0 (nI j))).wpa (upd ((X.wth 0).wpa (upd (X.wth 0).pa 0 (nI j))).pa 1 (nI k))).po 0 0)).wsu (upd ((((X.wth 0).wpa (upd (X.wth 0).pa 0 (nI j))).wpa (upd ((X.wth 0).wpa (upd (X.wth 0).pa 0 (nI j))).pa 1 (nI k))).wpo (upd (((X.wth 0).wpa (upd (X.wth 0).pa 0 (nI j))).wpa (upd ((X.wth 0).wpa (upd (X.wth 0).pa 0 (nI j))).pa 1 (nI k))).po 0 0)).su 0 0)).wpo (upd (((((X.wth 0).wpa (upd (X.wth 0).pa 0 (nI j))).wpa (upd ((X.wth 0).wpa (upd (X.wth 0).pa 0 (nI j))).pa 1 (nI k))).wpo (upd (((X.wth 0).wpa (upd (X.wth 0).pa 0 (nI j))).wpa (upd ((X.wth 0).wpa (upd (X.wth 0).pa 0 (nI j))).pa 1 (nI k))).po 0 0)).wsu (upd ((((X.wth 0).wpa (upd (X.wth 0).pa 0 (nI j))).wpa (upd ((X.wth 0).wpa (upd (X.wth 0).pa 0 (nI j))).pa 1 (nI k))).wpo (upd (((X.wth 0).wpa (upd (X.wth 0).pa 0 (nI j))).wpa (upd ((X.wth 0).wpa (upd (X.wth 0).pa 0 (nI j))).pa 1 (nI k))).po 0 0)).su 0 0)).po 1 0)).wsu (upd ((((((X.wth 0).wpa (upd (X.wth 0).pa 0 (nI j))).wpa (upd ((X.wth 0).wpa (upd (X.wth 0).pa 0 (nI j))).pa 1 (nI k))).wpo (upd (((X.wth 0).wpa (upd (X.wth 0).pa 0 (nI j))).wpa (upd ((X.wth 0).wpa (upd (X.wth 0).pa 0 (nI j))).pa 1 (nI k))).po 0 0)).wsu (upd ((((X.wth 0).wpa (upd (X.wth 0).pa 0 (nI j))).wpa (upd ((X.wth 0).wpa (upd (X.wth 0).pa 0 (nI j))).pa 1 (nI k))).wpo (upd (((X.wth 0).wpa (upd (X.wth 0).pa 0 (nI j))).wpa (upd ((X.wth 0).wpa (upd (X.wth 0).pa 0 (nI j))).pa 1 (nI k))).po 0 0)).su 0 0)).wpo (upd (((((X.wth 0).wpa (upd (X.wth 0).pa 0 (nI j))).wpa (upd ((X.wth 0).wpa (upd (X.wth 0).pa 0 (nI j))).pa 1 (nI k))).wpo (upd (((X.wth 0).wpa (upd (X.wth 0).pa 0 (nI j))).wpa (upd ((X.wth 0).wpa (upd (X.wth 0).pa 0 (nI j))).pa 1 (nI k))).po 0 0)).wsu (upd ((((X.wth 0).wpa (upd (X.wth 0).pa 0 (nI j))).wpa (upd ((X.wth 0).wpa (upd (X.wth 0).pa 0 (nI j))).pa 1 (nI k))).wpo (upd (((X.wth 0).wpa (upd (X.wth 0).pa 0 (nI j))).wpa (upd ((X.wth 0).wpa (upd (X.wth 0).pa 0 (nI j))).pa 1 (nI k))).po 0 0)).su 0 0)).po 1 0)).su 1 0)).il), .double ((((((((X.wth 0).wpa (upd (X.wth 0).pa 0 (nI j))).wpa (upd ((X.wth 0).wpa (upd (X.wth 0).pa 0 (nI j))).pa 1 (nI k))).wpo (upd (((X.wth 0).wpa (upd (X.wth 0).pa 0 (nI j))).wpa (upd ((X.wth 0).wpa (upd (X.wth 0).pa 0 (nI j))).pa 1 (nI k))).po 0 0)).wsu (upd ((((X.wth 0).wpa (upd (X.wth 0).pa 0 (nI j))).wpa (upd ((X.wth 0).wpa (upd (X.wth 0).pa 0 (nI j))).pa 1 (nI k))).wpo (upd (((X.wth 0).wpa (upd (X.wth 0).pa 0 (nI j))).wpa (upd ((X.wth 0).wpa (upd (X.wth 0).pa 0 (nI j))).pa 1 (nI k))).po 0 0)).su 0 0)).wpo (upd (((((X.wth 0).wpa (upd (X.wth 0).pa 0 (nI j))).wpa (upd ((X.wth 0).wpa (upd (X.wth 0).pa 0 (nI j))).pa 1 (nI k))).wpo (upd (((X.wth 0).wpa (upd (X.wth 0).pa 0 (nI j))).wpa (upd ((X.wth 0).wpa (upd (X.wth 0).pa 0 (nI j))).pa 1 (nI k))).po 0 0)).wsu (upd ((((X.wth 0).wpa (upd (X.wth 0).pa 0 (nI j))).wpa (upd ((X.wth 0).wpa (upd (X.wth 0).pa 0 (nI j))).pa 1 (nI k))).wpo (upd (((X.wth 0).wpa (upd (X.wth 0).pa 0 (nI j))).wpa (upd ((X.wth 0).wpa (upd (X.wth 0).pa 0 (nI j))).pa 1 (nI k))).po 0 0)).su 0 0)).po 1 0)).wsu (upd ((((((X.wth 0).wpa (upd (X.wth 0).pa 0 (nI j))).wpa (upd ((X.wth 0).wpa (upd (X.wth 0).pa 0 (nI j))).pa 1 (nI k))).wpo (upd (((X.wth 0).wpa (upd (X.wth 0).pa 0 (nI j))).wpa (upd ((X.wth 0).wpa (upd (X.wth 0).pa 0 (nI j))).pa 1 (nI k))).po 0 0)).wsu (upd ((((X.wth 0).wpa (upd (X.wth 0).pa 0 (nI j))).wpa (upd ((X.wth 0).wpa (upd (X.wth 0).pa 0 (nI j))).pa 1 (nI k))).wpo (upd (((X.wth 0).wpa (upd (X.wth 0).pa 0 (nI j))).wpa (upd ((X.wth 0).wpa (upd (X.wth 0).pa 0 (nI j))).pa 1 (nI k))).po 0 0)).su 0 0)).wpo (upd (((((X.wth 0).wpa (upd (X.wth 0).pa 0 (nI j))).wpa (upd ((X.wth 0).wpa (upd (X.wth 0).pa 0 (nI j))).pa 1 (nI k))).wpo (upd (((X.wth 0).wpa (upd (X.wth 0).pa 0 (nI j))).wpa (upd ((X.wth 0).wpa (upd (X.wth 0).pa 0 (nI j))).pa 1 (nI k))).po 0 0)).wsu (upd ((((X.wth 0).wpa (upd (X.wth 0).pa 0 (nI j))).wpa (upd ((X.wth 0).wpa (upd (X.wth 0).pa 0 (nI j))).pa 1 (nI k))).wpo (upd (((X.wth 0).wpa (upd (X.wth 0).pa 0 (nI j))).wpa (upd ((X.wth 0).wpa (upd (X.wth 0).pa 0 (nI j))).pa 1 (nI k))).po 0 0)).su 0 0)).po 1 0)).su 1 0)).h), .double ((((((((X.wth 0).wpa (upd (X.wth 0).pa 0 (nI j))).wpa (upd ((X.wth 0).wpa (upd (X.wth 0).pa 0 (nI j))).pa 1 (nI k))).wpo (upd (((X.wth 0).wpa (upd (X.wth 0).pa 0 (nI j))).wpa (upd ((X.wth 0).wpa (upd (X.wth 0).pa 0 (nI j))).pa 1 (nI k))).po 0 0)).wsu (upd ((((X.wth 0).wpa (upd (X.wth 0).pa 0 (nI j))).wpa (upd ((X.wth 0).wpa (upd (X.wth 0).pa 0 (nI j))).pa 1 (nI k))).wpo (upd (((X.wth 0).wpa (upd (X.wth 0).pa 0 (nI j))).wpa (upd ((X.wth 0).wpa (upd (X.wth 0).pa 0 (nI j))).pa 1 (nI k))).po 0 0)).su 0 0)).wpo (upd (((((X.wth 0).wpa (upd (X.wth 0).pa 0 (nI j))).wpa (upd ((X.wth 0).wpa (upd (X.wth 0).pa 0 (nI j))).pa 1 (nI k))).wpo (upd (((X.wth 0).wpa (upd (X.wth 0).pa 0 (nI j))).wpa (upd ((X.wth 0).wpa (upd (X.wth 0).pa 0 (nI j))).pa 1 (nI k))).po 0 0)).wsu (upd ((((X.wth 0).wpa (upd (X.wth 0).pa 0 (nI j))).wpa (upd ((X.wth 0).wpa (upd (X.wth 0).pa 0 (nI j))).pa 1 (nI k))).wpo (upd (((X.wth 0).wpa (upd (X.wth 0).pa 0 (nI j))).wpa (upd ((X.wth 0).wpa (upd (X.wth 0).pa 0 (nI j))).pa 1 (nI k))).po 0 0)).su 0 0)).po 1 0)).wsu (upd ((((((X.wth 0).wpa (upd (X.wth 0).pa 0 (nI j))).wpa (upd ((X.wth 0).wpa (upd (X.wth 0).pa 0 (nI j))).pa 1 (nI k))).wpo (upd (((X.wth 0).wpa (upd (X.wth 0).pa 0 (nI j))).wpa (upd ((X.wth 0).wpa (upd (X.wth 0).pa 0 (nI j))).pa 1 (nI k))).po 0 0)).wsu (upd ((((X.wth 0).wpa (upd (X.wth 0).pa 0 (nI j))).wpa (upd ((X.wth 0).wpa (upd (X.wth 0).pa 0 (nI j))).pa 1 (nI k))).wpo (upd (((X.wth 0).wpa (upd (X.wth 0).pa 0 (nI j))).wpa (upd ((X.wth 0).wpa (upd (X.wth 0).pa 0 (nI j))).pa 1 (nI k))).po 0 0)).su 0 0)).wpo (upd (((((X.wth 0).wpa (upd (X.wth 0).pa 0 (nI j))).wpa (upd ((X.wth 0).wpa (upd (X.wth 0).pa 0 (nI j))).pa 1 (nI k))).wpo (upd (((X.wth 0).wpa (upd (X.wth 0).pa 0 (nI j))).wpa (upd ((X.wth 0).wpa (upd (X.wth 0).pa 0 (nI j))).pa 1 (nI k))).po 0 0)).wsu (upd ((((X.wth 0).wpa (upd (X.wth 0).pa 0 (nI j))).wpa (upd ((X.wth 0).wpa (upd (X.wth 0).pa 0 (nI j))).pa 1 (nI k))).wpo (upd (((X.wth 0).wpa (upd (X.wth 0).pa 0 (nI j))).wpa (upd ((X.wth 0).wpa (upd (X.wth 0).pa 0 (nI j))).pa 1 (nI k))).po 0 0)).su 0 0)).po 1 0)).su 1 0)).v), .long ((((((((X.wth 0).wpa (upd (X.wth 0).pa 0 (nI j))).wpa (upd ((X.wth 0).wpa (upd (X.wth 0).pa 0 (nI j))).pa 1 (nI k))).wpo (upd (((X.wth 0).wpa (upd (X.wth 0).pa 0 (nI j))).wpa (upd ((X.wth 0).wpa (upd (X.wth 0).pa 0 (nI j))).pa 1 (nI k))).po 0 0)).wsu (upd ((((X.wth 0).wpa (upd (X.wth 0).pa 0 (nI j))).wpa (upd ((X.wth 0).wpa (upd (X.wth 0).pa 0 (nI j))).pa 1 (nI k))).wpo (upd (((X.wth 0).wpa (upd (X.wth 0).pa 0 (nI j))).wpa (upd ((X.wth 0).wpa (upd (X.wth 0).pa 0 (nI j))).pa 1 (nI k))).po 0 0)).su 0 0)).wpo (upd (((((X.wth 0).wpa (upd (X.wth 0).pa 0 (nI j))).wpa (upd ((X.wth 0).wpa (upd (X.wth 0).pa 0 (nI j))).pa 1 (nI k))).wpo (upd (((X.wth 0).wpa (upd (X.wth 0).pa 0 (nI j))).wpa (upd ((X.wth 0).wpa (upd (X.wth 0).pa 0 (nI j))).pa 1 (nI k))).po 0 0)).wsu (upd ((((X.wth 0).wpa (upd (X.wth 0).pa 0 (nI j))).wpa (upd ((X.wth 0).wpa (upd (X.wth 0).pa 0 (nI j))).pa 1 (nI k))).wpo (upd (((X.wth 0).wpa (upd (X.wth 0).pa 0 (nI j))).wpa (upd ((X.wth 0).wpa (upd (X.wth 0).pa 0 (nI j))).pa 1 (nI k))).po 0 0)).su 0 0)).po 1 0)).wsu (upd ((((((X.wth 0).wpa (upd (X.wth 0).pa 0 (nI j))).wpa (upd ((X.wth 0).wpa (upd (X.wth 0).pa 0 (nI j))).pa 1 (nI k))).wpo (upd (((X.wth 0).wpa (upd (X.wth 0).pa 0 (nI j))).wpa (upd ((X.wth 0).wpa (upd (X.wth 0).pa 0 (nI j))).pa 1 (nI k))).po 0 0)).wsu (upd ((((X.wth 0).wpa (upd (X.wth 0).pa 0 (nI j))).wpa (upd ((X.wth 0).wpa (upd (X.wth 0).pa 0 (nI j))).pa 1 (nI k))).wpo (upd (((X.wth 0).wpa (upd (X.wth 0).pa 0 (nI j))).wpa (upd ((X.wth 0).wpa (upd (X.wth 0).pa 0 (nI j))).pa 1 (nI k))).po 0 0)).su 0 0)).wpo (upd (((((X.wth 0).wpa (upd (X.wth 0).pa 0 (nI j))).wpa (upd ((X.wth 0).wpa (upd (X.wth 0).pa 0 (nI j))).pa 1 (nI k))).wpo (upd (((X.wth 0).wpa (upd (X.wth 0).pa 0 (nI j))).wpa (upd ((X.wth 0).wpa (upd (X.wth 0).pa 0 (nI j))).pa 1 (nI k))).po 0 0)).wsu (upd ((((X.wth 0).wpa (upd (X.wth 0).pa 0 (nI j))).wpa (upd ((X.wth 0).wpa (upd (X.wth 0).pa 0 (nI j))).pa 1 (nI k))).wpo (upd (((X.wth 0).wpa (upd (X.wth 0).pa 0 (nI j))).wpa (upd ((X.wth 0).wpa (upd (X.wth 0).pa 0 (nI j))).pa 1 (nI k))).po 0 0)).su 0 0)).po 1 0)).su 1 0)).sm)]) rfl dX7_match_130 ?_
              refine aw_re (P := fun μ1 => RM g K e0 S ((((((((X.wth 0).wpa (upd (X.wth 0).pa 0 (nI j))).wpa (upd ((X.wth 0).wpa (upd (X.wth 0).pa 0 (nI j))).pa 1 (nI k))).wpo (upd (((X.wth 0).wpa (upd (X.wth 0).pa 0 (nI j))).wpa (upd ((X.wth 0).wpa (upd (X.wth 0).pa 0 (nI j))).pa 1 (nI k))).po 0 0)).wsu (upd ((((X.wth 0).wpa (upd (X.wth 0).pa 0 (nI j))).wpa (upd ((X.wth 0).wpa (upd (X.wth 0).pa 0 (nI j))).pa 1 (nI k))).wpo (upd (((X.wth 0).wpa (upd (X.wth 0).pa 0 (nI j))).wpa (upd ((X.wth 0).wpa (upd (X.wth 0).pa 0 (nI j))).pa 1 (nI k))).po 0 0)).su 0 0)).wpo (upd (((((X.wth 0).wpa (upd (X.wth 0).pa 0 (nI j))).wpa (upd ((X.wth 0).wpa (upd (X.wth 0).pa 0 (nI j))).pa 1 (nI k))).wpo (upd (((X.wth 0).wpa (upd (X.wth 0).pa 0 (nI j))).wpa (upd ((X.wth 0).wpa (upd (X.wth 0).pa 0 (nI j))).pa 1 (nI k))).po 0 0)).wsu (upd ((((X.wth 0).wpa (upd (X.wth 0).pa 0 (nI j))).wpa (upd ((X.wth 0).wpa (upd (X.wth 0).pa 0 (nI j))).pa 1 (nI k))).wpo (upd (((X.wth 0).wpa (upd (X.wth 0).pa 0 (nI j))).wpa (upd ((X.wth 0).wpa (upd (X.wth 0).pa 0 (nI j))).pa 1 (nI k))).po 0 0)).su 0 0)).po 1 0)).wsu (upd ((((((X.wth 0).wpa (upd (X.wth 0).pa 0 (nI j))).wpa (upd ((X.wth 0).wpa (upd (X.wth 0).pa 0 (nI j))).pa 1 (nI k))).wpo (upd (((X.wth 0).wpa (upd (X.wth 0).pa 0 (nI j))).wpa (upd ((X.wth 0).wpa (upd (X.wth 0).pa 0 (nI j))).pa 1 (nI k))).po 0 0)).wsu (upd ((((X.wth 0).wpa (upd (X.wth 0).pa 0 (nI j))).wpa (upd ((X.wth 0).wpa (upd (X.wth 0).pa 0 (nI j))).pa 1 (nI k))).wpo (upd (((X.wth 0).wpa (upd (X.wth 0).pa 0 (nI j))).wpa (upd ((X.wth 0).wpa (upd (X.wth 0).pa 0 (nI j))).pa 1 (nI k))).po 0 0)).su 0 0)).wpo (upd (((((X.wth 0).wpa (upd (X.wth 0).pa 0 (nI j))).wpa (upd ((X.wth 0).wpa (upd (X.wth 0).pa 0 (nI j))).pa 1 (nI k))).wpo (upd (((X.wth 0).wpa (upd (X.wth 0).pa 0 (nI j))).wpa (upd ((X.wth 0).wpa (upd (X.wth 0).pa 0 (nI j))).pa 1 (nI k))).po 0 0)).wsu (upd ((((X.wth 0).wpa (upd (X.wth 0).pa 0 (nI j))).wpa (upd ((X.wth 0).wpa (upd (X.wth 0).pa 0 (nI j))).pa 1 (nI k))).wpo (upd (((X.wth 0).wpa (upd (X.wth 0).pa 0 (nI j))).wpa (upd ((X.wth 0).wpa (upd (X.wth 0).pa 0 (nI j))).pa 1 (nI k))).po 0 0)).su 0 0)).po 1 0)).su 1 0)).wT 0) μ1 ∧ FrM K S.nA S.nQ μ μ1) ⟨hM7.setX ((((((((X.wth 0).wpa (upd (X.wth 0).pa 0 (nI j))).wpa (upd ((X.wth 0).wpa (upd (X.wth 0).pa 0 (nI j))).pa 1 (nI k))).wpo (upd (((X.wth 0).wpa (upd (X.wth 0).pa 0 (nI j))).wpa (upd ((X.wth 0).wpa (upd (X.wth 0).pa 0 (nI j))).pa 1 (nI k))).po 0 0)).wsu (upd ((((X.wth 0).wpa (upd (X.wth 0).pa 0 (nI j))).wpa (upd ((X.wth 0).wpa (upd (X.wth 0).pa 0 (nI j))).pa 1 (nI k))).wpo (upd (((X.wth 0).wpa (upd (X.wth 0).pa 0 (nI j))).wpa (upd ((X.wth 0).wpa (upd (X.wth 0).pa 0 (nI j))).pa 1 (nI k))).po 0 0)).su 0 0)).wpo (upd (((((X.wth 0).wpa (upd (X.wth 0).pa 0 (nI j))).wpa (upd ((X.wth 0).wpa (upd (X.wth 0).pa 0 (nI j))).pa 1 (nI k))).wpo (upd (((X.wth 0).wpa (upd (X.wth 0).pa 0 (nI j))).wpa (upd ((X.wth 0).wpa (upd (X.wth 0).pa 0 (nI j))).pa 1 (nI k))).po 0 0)).wsu (upd ((((X.wth 0).wpa (upd (X.wth 0).pa 0 (nI j))).wpa (upd ((X.wth 0).wpa (upd (X.wth 0).pa 0 (nI j))).pa 1 (nI k))).wpo (upd (((X.wth 0).wpa (upd (X.wth 0).pa 0 (nI j))).wpa (upd ((X.wth 0).wpa (upd (X.wth 0).pa 0 (nI j))).pa 1 (nI k))).po 0 0)).su 0 0)).po 1 0)).wsu (upd ((((((X.wth 0).wpa (upd (X.wth 0).pa 0 (nI j))).wpa (upd ((X.wth 0).wpa (upd (X.wth 0).pa 0 (nI j))).pa 1 (nI k))).wpo (upd (((X.wth 0).wpa (upd (X.wth 0).pa 0 (nI j))).wpa (upd ((X.wth 0).wpa (upd (X.wth 0).pa 0 (nI j))).pa 1 (nI k))).po 0 0)).wsu (upd ((((X.wth 0).wpa (upd (X.wth 0).pa 0 (nI j))).wpa (upd ((X.wth 0).wpa (upd (X.wth 0).pa 0 (nI j))).pa 1 (nI k))).wpo (upd (((X.wth 0).wpa (upd (X.wth 0).pa 0 (nI j))).wpa (upd ((X.wth 0).wpa (upd (X.wth 0).pa 0 (nI j))).pa 1 (nI k))).po 0 0)).su 0 0)).wpo (upd (((((X.wth 0).wpa (upd (X.wth 0).pa 0 (nI j))).wpa (upd ((X.wth 0).wpa (upd (X.wth 0).pa 0 (nI j))).pa 1 (nI k))).wpo (upd (((X.wth 0).wpa (upd (X.wth 0).pa 0 (nI j))).wpa (upd ((X.wth 0).wpa (upd (X.wth 0).pa 0 (nI j))).pa 1 (nI k))).po 0 0)).wsu (upd ((((X.wth 0).wpa (upd (X.wth 0).pa 0 (nI j))).wpa (upd ((X.wth 0).wpa (upd (X.wth 0).pa 0 (nI j))).pa 1 (nI k))).wpo (upd (((X.wth 0).wpa (upd (X.wth 0).pa 0 (nI j))).wpa (upd ((X.wth 0).wpa (upd (X.wth 0).pa 0 (nI j))).pa 1 (nI k))).po 0 0)).su 0 0)).po 1 0)).su 1 0)).wT 0) rfl rfl rfl, hF7.mpw (m0 (by decide))⟩ (fun μ8 hq => ?_)
              obtain ⟨hM8, hF8⟩ := hq
              refine aw_aload_n C dX7_match_133 rfl ?_
              refine aw_iconst C (v := 0) (by decide) dX7_match_134 ?_
              refine aw_putE C f237 ftX7 (ty := .boolean) (by decide +kernel) rfl rfl hM8.mo (Nat.le_of_ble_eq_true rfl) (fs' := [.int (((((((((X.wth 0).wpa (upd (X.wth 0).pa 0 (nI j))).wpa (upd ((X.wth 0).wpa (upd (X.wth 0).pa 0 (nI j))).pa 1 (nI k))).wpo (upd (((X.wth 0).wpa (upd (X.wth 0).pa 0 (nI j))).wpa (upd ((X.wth 0).wpa (upd (X.wth 0).pa 0 (nI j))).pa 1 (nI k))).po 0 0)).wsu (upd ((((X.wth 0).wpa (upd (X.wth 0).pa 0 (nI j))).wpa (upd ((X.wth 0).wpa (upd (X.wth 0).pa 0 (nI j))).pa 1 (nI k))).wpo (upd (((X.wth 0).wpa (upd (X.wth 0).pa 0 (nI j))).wpa (upd ((X.wth 0).wpa (upd (X.wth 0).pa 0 (nI j))).pa 1 (nI k))).po 0 0)).su 0 0)).wpo (upd (((((X.wth 0).wpa (upd (X.wth 0).pa 0 (nI j))).wpa (upd ((X.wth 0).wpa (upd (X.wth 0).pa 0 (nI j))).pa 1 (nI k))).wpo (upd (((X.wth 0).wpa (upd (X.wth 0).pa 0 (nI j))).wpa (upd ((X.wth 0).wpa (upd (X.wth 0).pa 0 (nI j))).pa 1 (nI k))).po 0 0)).wsu (upd ((((X.wth 0).wpa (upd (X.wth 0).pa 0 (nI j))).wpa (upd ((X.wth 0).wpa (upd (X.wth 0).pa 0 (nI j))).pa 1 (nI k))).wpo (upd (((X.wth 0).wpa (upd (X.wth 0).pa 0 (nI j))).wpa (upd ((X.wth 0).wpa (upd (X.wth 0).pa 0 (nI j))).pa 1 (nI k))).po 0 0)).su 0 0)).po 1 0)).wsu (upd ((((((X.wth 0).wpa (upd (X.wth 0).pa 0 (nI j))).wpa (upd ((X.wth 0).wpa (upd (X.wth 0).pa 0 (nI j))).pa 1 (nI k))).wpo (upd (((X.wth 0).wpa (upd (X.wth 0).pa 0 (nI j))).wpa (upd ((X.wth 0).wpa (upd (X.wth 0).pa 0 (nI j))).pa 1 (nI k))).po 0 0)).wsu (upd ((((X.wth 0).wpa (upd (X.wth 0).pa 0 (nI j))).wpa (upd ((X.wth 0).wpa (upd (X.wth 0).pa 0 (nI j))).pa 1 (nI k))).wpo (upd (((X.wth 0).wpa (upd (X.wth 0).pa 0 (nI j))).wpa (upd ((X.wth 0).wpa (upd (X.wth 0).pa 0 (nI j))).pa 1 (nI k))).po 0 0)).su 0 0)).wpo (upd (((((X.wth 0).wpa (upd (X.wth 0).pa 0 (nI j))).wpa (upd ((X.wth 0).wpa (upd (X.wth 0).pa 0 (nI j))).pa 1 (nI k))).wpo (upd (((X.wth 0).wpa (upd (X.wth 0).pa 0 (nI j))).wpa (upd ((X.wth 0).wpa (upd (X.wth 0).pa 0 (nI j))).pa 1 (nI k))).po 0 0)).wsu (upd ((((X.wth 0).wpa (upd (X.wth 0).pa 0 (nI j))).wpa (upd ((X.wth 0).wpa (upd (X.wth 0).pa 0 (nI j))).pa 1 (nI k))).wpo (upd (((X.wth 0).wpa (upd (X.wth 0).pa 0 (nI j))).wpa (upd ((X.wth 0).wpa (upd (X.wth 0).pa 0 (nI j))).pa 1 (nI k))).po 0 0)).su 0 0)).po 1 0)).su 1 0)).wT 0).th), .ref (K 1 0), .ref (K 2 0), .int (S.c 4), .int (S.c 5), .int (S.c 6), .int (S.c 9), .int (S.c 10), .int (S.c 8), .int (S.c 13), .int (S.c 7), .int (S.c 11), .int (S.c 14), .ref (K 3 0), .ref (K 4 0), .ref (K 5 0), .double (((((((((X.wth 0).wpa (upd (X.wth 0).pa 0 (nI j))).wpa (upd ((X.wth 0).wpa (upd (X.wth 0).pa 0 (nI j))).pa 1 (nI k))).wpo (upd (((X.wth 0).wpa (upd (X.wth 0).pa 0 (nI j))).wpa (upd ((X.wth 0).wpa (upd (X.wth 0).pa 0 (nI j))).pa 1 (nI k))).po 0 0)).wsu (upd ((((X.wth 0).wpa (upd (X.wth 0).pa 0 (nI j))).wpa (upd ((X.wth 0).wpa (upd (X.wth 0).pa 0 (nI j))).pa 1 (nI k))).wpo (upd (((X.wth 0).wpa (upd (X.wth 0).pa 0 (nI j))).wpa (upd ((X.wth 0).wpa (upd (X.wth 0).pa 0 (nI j))).pa 1 (nI k))).po 0 0)).su 0 0)).wpo (upd (((((X.wth 0).wpa (upd (X.wth 0).pa 0 (nI j))).wpa (upd ((X.wth 0).wpa (upd (X.wth 0).pa 0 (nI j))).pa 1 (nI k))).wpo (upd (((X.wth 0).wpa (upd (X.wth 0).pa 0 (nI j))).wpa (upd ((X.wth 0).wpa (upd (X.wth 0).pa 0 (nI j))).pa 1 (nI k))).po 0 0)).wsu (upd ((((X.wth 0).wpa (upd (X.wth 0).pa 0 (nI j))).wpa (upd ((X.wth 0).wpa (upd (X.wth 0).pa 0 (nI j))).pa 1 (nI k))).wpo (upd (((X.wth 0).wpa (upd (X.wth 0).pa 0 (nI j))).wpa (upd ((X.wth 0).wpa (upd (X.wth 0).pa 0 (nI j))).pa 1 (nI k))).po 0 0)).su 0 0)).po 1 0)).wsu (upd ((((((X.wth 0).wpa (upd (X.wth 0).pa 0 (nI j))).wpa (upd ((X.wth 0).wpa (upd (X.wth 0).pa 0 (nI j))).pa 1 (nI k))).wpo (upd (((X.wth 0).wpa (upd (X.wth 0).pa 0 (nI j))).wpa (upd ((X.wth 0).wpa (upd (X.wth 0).pa 0 (nI j))).pa 1 (nI k))).po 0 0)).wsu (upd ((((X.wth 0).wpa (upd (X.wth 0).pa 0 (nI j))).wpa (upd ((X.wth 0).wpa (upd (X.wth 0).pa 0 (nI j))).pa 1 (nI k))).wpo (upd (((X.wth 0).wpa (upd (X.wth 0).pa 0 (nI j))).wpa (upd ((X.wth 0).wpa (upd (X.wth 0).pa 0 (nI j))).pa 1 (nI k))).po 0 0)).su 0 0)).wpo (upd (((((X.wth 0).wpa (upd (X.wth 0).pa 0 (nI j))).wpa (upd ((X.wth 0).wpa (upd (X.wth 0).pa 0 (nI j))).pa 1 (nI k))).wpo (upd (((X.wth 0).wpa (upd (X.wth 0).pa 0 (nI j))).wpa (upd ((X.wth 0).wpa (upd (X.wth 0).pa 0 (nI j))).pa 1 (nI k))).po 0 0)).wsu (upd ((((X.wth 0).wpa (upd (X.wth 0).pa 0 (nI j))).wpa (upd ((X.wth 0).wpa (upd (X.wth 0).pa 0 (nI j))).pa 1 (nI k))).wpo (upd (((X.wth 0).wpa (upd (X.wth 0).pa 0 (nI j))).wpa (upd ((X.wth 0).wpa (upd (X.wth 0).pa 0 (nI j))).pa 1 (nI k))).po 0 0)).su 0 0)).po 1 0)).su 1 0)).wT 0).ne), .int (nI ((((((((X.wth 0).wpa (upd (X.wth 0).pa 0 (nI j))).wpa (upd ((X.wth 0).wpa (upd (X.wth 0).pa 0 (nI j))).pa 1 (nI k))).wpo (upd (((X.wth 0).wpa (upd (X.wth 0).pa 0 (nI j))).wpa (upd ((X.wth 0).wpa (upd (X.wth 0).pa 0 (nI j))).pa 1 (nI k))).po 0 0)).wsu (upd ((((X.wth 0).wpa (upd (X.wth 0).pa 0 (nI j))).wpa (upd ((X.wth 0).wpa (upd (X.wth 0).pa 0 (nI j))).pa 1 (nI k))).wpo (upd (((X.wth 0).wpa (upd (X.wth 0).pa 0 (nI j))).wpa (upd ((X.wth 0).wpa (upd (X.wth 0).pa 0 (nI j))).pa 1 (nI k))).po 0 0)).su 0 0)).wpo (upd (((((X.wth 0).wpa (upd (X.wth 0).pa 0 (nI j))).wpa (upd ((X.wth 0).wpa (upd (X.wth 0).pa 0 (nI j))).pa 1 (nI k))).wpo (upd (((X.wth 0).wpa (upd (X.wth 0).pa 0 (nI j))).wpa (upd ((X.wth 0).wpa (upd (X.wth 0).pa 0 (nI j))).pa 1 (nI k))).po 0 0)).wsu (upd ((((X.wth 0).wpa (upd (X.wth 0).pa 0 (nI j))).wpa (upd ((X.wth 0).wpa (upd (X.wth 0).pa 0 (nI j))).pa 1 (nI k))).wpo (upd (((X.wth 0).wpa (upd (X.wth 0).pa 0 (nI j))).wpa (upd ((X.wth 0).wpa (upd (X.wth 0).pa 0 (nI j))).pa 1 (nI k))).po 0 0)).su 0 0)).po 1 0)).wsu (upd ((((((X.wth 0).wpa (upd (X.wth 0).pa 0 (nI j))).wpa (upd ((X.wth 0).wpa (upd (X.wth 0).pa 0 (nI j))).pa 1 (nI k))).wpo (upd (((X.wth 0).wpa (upd (X.wth 0).pa 0 (nI j))).wpa (upd ((X.wth 0).wpa (upd (X.wth 0).pa 0 (nI j))).pa 1 (nI k))).po 0 0)).wsu (upd ((((X.wth 0).wpa (upd (X.wth 0).pa 0 (nI j))).wpa (upd ((X.wth 0).wpa (upd (X.wth 0).pa 0 (nI j))).pa 1 (nI k))).wpo (upd (((X.wth 0).wpa (upd (X.wth 0).pa 0 (nI j))).wpa (upd ((X.wth 0).wpa (upd (X.wth 0).pa 0 (nI j))).pa 1 (nI k))).po 0 0)).su 0 0)).wpo (upd (((((X.wth 0).wpa (upd (X.wth 0).pa 0 (nI j))).wpa (upd ((X.wth 0).wpa (upd (X.wth 0).pa 0 (nI j))).pa 1 (nI k))).wpo (upd (((X.wth 0).wpa (upd (X.wth 0).pa 0 (nI j))).wpa (upd ((X.wth 0).wpa (upd (X.wth 0).pa 0 (nI j))).pa 1 (nI k))).po 0 0)).wsu (upd ((((X.wth 0).wpa (upd (X.wth 0).pa 0 (nI j))).wpa (upd ((X.wth 0).wpa (upd (X.wth 0).pa 0 (nI j))).pa 1 (nI k))).wpo (upd (((X.wth 0).wpa (upd (X.wth 0).pa 0 (nI j))).wpa (upd ((X.wth 0).wpa (upd (X.wth 0).pa 0 (nI j))).pa 1 (nI k))).po 0 0)).su 0 0)).po 1 0)).su 1 0)).wT 0).T), .int 0, .double (((((((((X.wth 0).wpa (upd (X.wth 0).pa 0 (nI j))).wpa (upd ((X.wth 0).wpa (upd (X.wth 0).pa 0 (nI j))).pa 1 (nI k))).wpo (upd (((X.wth 0).wpa (upd (X.wth 0).pa 0 (nI j))).wpa (upd ((X.wth 0).wpa (upd (X.wth 0).pa 0 (nI j))).pa 1 (nI k))).po 0 0)).wsu (upd ((((X.wth 0).wpa (upd (X.wth 0).pa 0 (nI j))).wpa (upd ((X.wth 0).wpa (upd (X.wth 0).pa 0 (nI j))).pa 1 (nI k))).wpo (upd (((X.wth 0).wpa (upd (X.wth 0).pa 0 (nI j))).wpa (upd ((X.wth 0).wpa (upd (X.wth 0).pa 0 (nI j))).pa 1 (nI k))).po 0 0)).su 0 0)).wpo (upd (((((X.wth 0).wpa (upd (X.wth 0).pa 0 (nI j))).wpa (upd ((X.wth 0).wpa (upd (X.wth 0).pa 0 (nI j))).pa 1 (nI k))).wpo (upd (((X.wth 0).wpa (upd (X.wth 0).pa 0 (nI j))).wpa (upd ((X.wth 0).wpa (upd (X.wth 0).pa 0 (nI j))).pa 1 (nI k))).po 0 0)).wsu (upd ((((X.wth 0).wpa (upd (X.wth 0).pa 0 (nI j))).wpa (upd ((X.wth 0).wpa (upd (X.wth 0).pa 0 (nI j))).pa 1 (nI k))).wpo (upd (((X.wth 0).wpa (upd (X.wth 0).pa 0 (nI j))).wpa (upd ((X.wth 0).wpa (upd (X.wth 0).pa 0 (nI j))).pa 1 (nI k))).po 0 0)).su 0 0)).po 1 0)).wsu (upd ((((((X.wth 0).wpa (upd (X.wth 0).pa 0 (nI j))).wpa (upd ((X.wth 0).wpa (upd (X.wth 0).pa 0 (nI j))).pa 1 (nI k))).wpo (upd (((X.wth 0).wpa (upd (X.wth 0).pa 0 (nI j))).wpa (upd ((X.wth 0).wpa (upd (X.wth 0).pa 0 (nI j))).pa 1 (nI k))).po 0 0)).wsu (upd ((((X.wth 0).wpa (upd (X.wth 0).pa 0 (nI j))).wpa (upd ((X.wth 0).wpa (upd (X.wth 0).pa 0 (nI j))).pa 1 (nI k))).wpo (upd (((X.wth 0).wpa (upd (X.wth 0).pa 0 (nI j))).wpa (upd ((X.wth 0).wpa (upd (X.wth 0).pa 0 (nI j))).pa 1 (nI k))).po 0 0)).su 0 0)).wpo (upd (((((X.wth 0).wpa (upd (X.wth 0).pa 0 (nI j))).wpa (upd ((X.wth 0).wpa (upd (X.wth 0).pa 0 (nI j))).pa 1 (nI k))).wpo (upd (((X.wth 0).wpa (upd (X.wth 0).pa 0 (nI j))).wpa (upd ((X.wth 0).wpa (upd (X.wth 0).pa 0 (nI j))).pa 1 (nI k))).po 0 0)).wsu (upd ((((X.wth 0).wpa (upd (X.wth 0).pa 0 (nI j))).wpa (upd ((X.wth 0).wpa (upd (X.wth 0).pa 0 (nI j))).pa 1 (nI k))).wpo (upd (((X.wth 0).wpa (upd (X.wth 0).pa 0 (nI j))).wpa (upd ((X.wth 0).wpa (upd (X.wth 0).pa 0 (nI j))).pa 1 (nI k))).po 0 0)).su 0 0)).po 1 0)).su 1 0)).wT 0).h), .double (((((((((X.wth 0).wpa (upd (X.wth 0).pa 0 (nI j))).wpa (upd ((X.wth 0).wpa (upd (X.wth 0).pa 0 (nI j))).pa 1 (nI k))).wpo (upd (((X.wth 0).wpa (upd (X.wth 0).pa 0 (nI j))).wpa (upd ((X.wth 0).wpa (upd (X.wth 0).pa 0 (nI j))).pa 1 (nI k))).po 0 0)).wsu (upd ((((X.wth 0).wpa (upd (X.wth 0).pa 0 (nI j))).wpa (upd ((X.wth 0).wpa (upd (X.wth 0).pa 0 (nI j))).pa 1 (nI k))).wpo (upd (((X.wth 0).wpa (upd (X.wth 0).pa 0 (nI j))).wpa (upd ((X.wth 0).wpa (upd (X.wth 0).pa 0 (nI j))).pa 1 (nI k))).po 0 0)).su 0 0)).wpo (upd (((((X.wth 0).wpa (upd (X.wth 0).pa 0 (nI j))).wpa (upd ((X.wth 0).wpa (upd (X.wth 0).pa 0 (nI j))).pa 1 (nI k))).wpo (upd (((X.wth 0).wpa (upd (X.wth 0).pa 0 (nI j))).wpa (upd ((X.wth 0).wpa (upd (X.wth 0).pa 0 (nI j))).pa 1 (nI k))).po 0 0)).wsu (upd ((((X.wth 0).wpa (upd (X.wth 0).pa 0 (nI j))).wpa (upd ((X.wth 0).wpa (upd (X.wth 0).pa 0 (nI j))).pa 1 (nI k))).wpo (upd (((X.wth 0).wpa (upd (X.wth 0).pa 0 (nI j))).wpa (upd ((X.wth 0).wpa (upd (X.wth 0).pa 0 (nI j))).pa 1 (nI k))).po 0 0)).su 0 0)).po 1 0)).wsu (upd ((((((X.wth 0).wpa (upd (X.wth 0).pa 0 (nI j))).wpa (upd ((X.wth 0).wpa (upd (X.wth 0).pa 0 (nI j))).pa 1 (nI k))).wpo (upd (((X.wth 0).wpa (upd (X.wth 0).pa 0 (nI j))).wpa (upd ((X.wth 0).wpa (upd (X.wth 0).pa 0 (nI j))).pa 1 (nI k))).po 0 0)).wsu (upd ((((X.wth 0).wpa (upd (X.wth 0).pa 0 (nI j))).wpa (upd ((X.wth 0).wpa (upd (X.wth 0).pa 0 (nI j))).pa 1 (nI k))).wpo (upd (((X.wth 0).wpa (upd (X.wth 0).pa 0 (nI j))).wpa (upd ((X.wth 0).wpa (upd (X.wth 0).pa 0 (nI j))).pa 1 (nI k))).po 0 0)).su 0 0)).wpo (upd (((((X.wth 0).wpa (upd (X.wth 0).pa 0 (nI j))).wpa (upd ((X.wth 0).wpa (upd (X.wth 0).pa 0 (nI j))).pa 1 (nI k))).wpo (upd (((X.wth 0).wpa (upd (X.wth 0).pa 0 (nI j))).wpa (upd ((X.wth 0).wpa (upd (X.wth 0).pa 0 (nI j))).pa 1 (nI k))).po 0 0)).wsu (upd ((((X.wth 0).wpa (upd (X.wth 0).pa 0 (nI j))).wpa (upd ((X.wth 0).wpa (upd (X.wth 0).pa 0 (nI j))).pa 1 (nI k))).wpo (upd (((X.wth 0).wpa (upd (X.wth 0).pa 0 (nI j))).wpa (upd ((X.wth 0).wpa (upd (X.wth 0).pa 0 (nI j))).pa 1 (nI k))).po 0 0)).su 0 0)).po 1 0)).su 1 0)).wT 0).v), .long (((((((((X.wth 0).wpa (upd (X.wth 0).pa 0 (nI j))).wpa (upd ((X.wth 0).wpa (upd (X.wth 0).pa 0 (nI j))).pa 1 (nI k))).wpo (upd (((X.wth 0).wpa (upd (X.wth 0).pa 0 (nI j))).wpa (upd ((X.wth 0).wpa (upd (X.wth 0).pa 0 (nI j))).pa 1 (nI k))).po 0 0)).wsu (upd ((((X.wth 0).wpa (upd (X.wth 0).pa 0 (nI j))).wpa (upd ((X.wth 0).wpa (upd (X.wth 0).pa 0 (nI j))).pa 1 (nI k))).wpo (upd (((X.wth 0).wpa (upd (X.wth 0).pa 0 (nI j))).wpa (upd ((X.wth 0).wpa (upd (X.wth 0).pa 0 (nI j))).pa 1 (nI k))).po 0 0)).su 0 0)).wpo (upd (((((X.wth 0).wpa (upd (X.wth 0).pa 0 (nI j))).wpa (upd ((X.wth 0).wpa (upd (X.wth 0).pa 0 (nI j))).pa 1 (nI k))).wpo (upd (((X.wth 0).wpa (upd (X.wth 0).pa 0 (nI j))).wpa (upd ((X.wth 0).wpa (upd (X.wth 0).pa 0 (nI j))).pa 1 (nI k))).po 0 0)).wsu (upd ((((X.wth 0).wpa (upd (X.wth 0).pa 0 (nI j))).wpa (upd ((X.wth 0).wpa (upd (X.wth 0).pa 0 (nI j))).pa 1 (nI k))).wpo (upd (((X.wth 0).wpa (upd (X.wth 0).pa 0 (nI j))).wpa (upd ((X.wth 0).wpa (upd (X.wth 0).pa 0 (nI j))).pa 1 (nI k))).po 0 0)).su 0 0)).po 1 0)).wsu (upd ((((((X.wth 0).wpa (upd (X.wth 0).pa 0 (nI j))).wpa (upd ((X.wth 0).wpa (upd (X.wth 0).pa 0 (nI j))).pa 1 (nI k))).wpo (upd (((X.wth 0).wpa (upd (X.wth 0).pa 0 (nI j))).wpa (upd ((X.wth 0).wpa (upd (X.wth 0).pa 0 (nI j))).pa 1 (nI k))).po 0 0)).wsu (upd ((((X.wth 0).wpa (upd (X.wth 0).pa 0 (nI j))).wpa (upd ((X.wth 0).wpa (upd (X.wth 0).pa 0 (nI j))).pa 1 (nI k))).wpo (upd (((X.wth 0).wpa (upd (X.wth 0).pa 0 (nI j))).wpa (upd ((X.wth 0).wpa (upd (X.wth 0).pa 0 (nI j))).pa 1 (nI k))).po 0 0)).su 0 0)).wpo (upd (((((X.wth 0).wpa (upd (X.wth 0).pa 0 (nI j))).wpa (upd ((X.wth 0).wpa (upd (X.wth 0).pa 0 (nI j))).pa 1 (nI k))).wpo (upd (((X.wth 0).wpa (upd (X.wth 0).pa 0 (nI j))).wpa (upd ((X.wth 0).wpa (upd (X.wth 0).pa 0 (nI j))).pa 1 (nI k))).po 0 0)).wsu (upd ((((X.wth 0).wpa (upd (X.wth 0).pa 0 (nI j))).wpa (upd ((X.wth 0).wpa (upd (X.wth 0).pa 0 (nI j))).pa 1 (nI k))).wpo (upd (((X.wth 0).wpa (upd (X.wth 0).pa 0 (nI j))).wpa (upd ((X.wth 0).wpa (upd (X.wth 0).pa 0 (nI j))).pa 1 (nI k))).po 0 0)).su 0 0)).po 1 0)).su 1 0)).wT 0).sm)]) rfl dX7_match_135 ?_
              refine aw_re (P := fun μ1 => RM g K e0 S (((((((((X.wth 0).wpa (upd (X.wth 0).pa 0 (nI j))).wpa (upd ((X.wth 0).wpa (upd (X.wth 0).pa 0 (nI j))).pa 1 (nI k))).wpo (upd (((X.wth 0).wpa (upd (X.wth 0).pa 0 (nI j))).wpa (upd ((X.wth 0).wpa (upd (X.wth 0).pa 0 (nI j))).pa 1 (nI k))).po 0 0)).wsu (upd ((((X.wth 0).wpa (upd (X.wth 0).pa 0 (nI j))).wpa (upd ((X.wth 0).wpa (upd (X.wth 0).pa 0 (nI j))).pa 1 (nI k))).wpo (upd (((X.wth 0).wpa (upd (X.wth 0).pa 0 (nI j))).wpa (upd ((X.wth 0).wpa (upd (X.wth 0).pa 0 (nI j))).pa 1 (nI k))).po 0 0)).su 0 0)).wpo (upd (((((X.wth 0).wpa (upd (X.wth 0).pa 0 (nI j))).wpa (upd ((X.wth 0).wpa (upd (X.wth 0).pa 0 (nI j))).pa 1 (nI k))).wpo (upd (((X.wth 0).wpa (upd (X.wth 0).pa 0 (nI j))).wpa (upd ((X.wth 0).wpa (upd (X.wth 0).pa 0 (nI j))).pa 1 (nI k))).po 0 0)).wsu (upd ((((X.wth 0).wpa (upd (X.wth 0).pa 0 (nI j))).wpa (upd ((X.wth 0).wpa (upd (X.wth 0).pa 0 (nI j))).pa 1 (nI k))).wpo (upd (((X.wth 0).wpa (upd (X.wth 0).pa 0 (nI j))).wpa (upd ((X.wth 0).wpa (upd (X.wth 0).pa 0 (nI j))).pa 1 (nI k))).po 0 0)).su 0 0)).po 1 0)).wsu (upd ((((((X.wth 0).wpa (upd (X.wth 0).pa 0 (nI j))).wpa (upd ((X.wth 0).wpa (upd (X.wth 0).pa 0 (nI j))).pa 1 (nI k))).wpo (upd (((X.wth 0).wpa (upd (X.wth 0).pa 0 (nI j))).wpa (upd ((X.wth 0).wpa (upd (X.wth 0).pa 0 (nI j))).pa 1 (nI k))).po 0 0)).wsu (upd ((((X.wth 0).wpa (upd (X.wth 0).pa 0 (nI j))).wpa (upd ((X.wth 0).wpa (upd (X.wth 0).pa 0 (nI j))).pa 1 (nI k))).wpo (upd (((X.wth 0).wpa (upd (X.wth 0).pa 0 (nI j))).wpa (upd ((X.wth 0).wpa (upd (X.wth 0).pa 0 (nI j))).pa 1 (nI k))).po 0 0)).su 0 0)).wpo (upd (((((X.wth 0).wpa (upd (X.wth 0).pa 0 (nI j))).wpa (upd ((X.wth 0).wpa (upd (X.wth 0).pa 0 (nI j))).pa 1 (nI k))).wpo (upd (((X.wth 0).wpa (upd (X.wth 0).pa 0 (nI j))).wpa (upd ((X.wth 0).wpa (upd (X.wth 0).pa 0 (nI j))).pa 1 (nI k))).po 0 0)).wsu (upd ((((X.wth 0).wpa (upd (X.wth 0).pa 0 (nI j))).wpa (upd ((X.wth 0).wpa (upd (X.wth 0).pa 0 (nI j))).pa 1 (nI k))).wpo (upd (((X.wth 0).wpa (upd (X.wth 0).pa 0 (nI j))).wpa (upd ((X.wth 0).wpa (upd (X.wth 0).pa 0 (nI j))).pa 1 (nI k))).po 0 0)).su 0 0)).po 1 0)).su 1 0)).wT 0).wil 0) μ1 ∧ FrM K S.nA S.nQ μ μ1) ⟨hM8.setX (((((((((X.wth 0).wpa (upd (X.wth 0).pa 0 (nI j))).wpa (upd ((X.wth 0).wpa (upd (X.wth 0).pa 0 (nI j))).pa 1 (nI k))).wpo (upd (((X.wth 0).wpa (upd (X.wth 0).pa 0 (nI j))).wpa (upd ((X.wth 0).wpa (upd (X.wth 0).pa 0 (nI j))).pa 1 (nI k))).po 0 0)).wsu (upd ((((X.wth 0).wpa (upd (X.wth 0).pa 0 (nI j))).wpa (upd ((X.wth 0).wpa (upd (X.wth 0).pa 0 (nI j))).pa 1 (nI k))).wpo (upd (((X.wth 0).wpa (upd (X.wth 0).pa 0 (nI j))).wpa (upd ((X.wth 0).wpa (upd (X.wth 0).pa 0 (nI j))).pa 1 (nI k))).po 0 0)).su 0 0)).wpo (upd (((((X.wth 0).wpa (upd (X.wth 0).pa 0 (nI j))).wpa (upd ((X.wth 0).wpa (upd (X.wth 0).pa 0 (nI j))).pa 1 (nI k))).wpo (upd (((X.wth 0).wpa (upd (X.wth 0).pa 0 (nI j))).wpa (upd ((X.wth 0).wpa (upd (X.wth 0).pa 0 (nI j))).pa 1 (nI k))).po 0 0)).wsu (upd ((((X.wth 0).wpa (upd (X.wth 0).pa 0 (nI j))).wpa (upd ((X.wth 0).wpa (upd (X.wth 0).pa 0 (nI j))).pa 1 (nI k))).wpo (upd (((X.wth 0).wpa (upd (X.wth 0).pa 0 (nI j))).wpa (upd ((X.wth 0).wpa (upd (X.wth 0).pa 0 (nI j))).pa 1 (nI k))).po 0 0)).su 0 0)).po 1 0)).wsu (upd ((((((X.wth 0).wpa (upd (X.wth 0).pa 0 (nI j))).wpa (upd ((X.wth 0).wpa (upd (X.wth 0).pa 0 (nI j))).pa 1 (nI k))).wpo (upd (((X.wth 0).wpa (upd (X.wth 0).pa 0 (nI j))).wpa (upd ((X.wth 0).wpa (upd (X.wth 0).pa 0 (nI j))).pa 1 (nI k))).po 0 0)).wsu (upd ((((X.wth 0).wpa (upd (X.wth 0).pa 0 (nI j))).wpa (upd ((X.wth 0).wpa (upd (X.wth 0).pa 0 (nI j))).pa 1 (nI k))).wpo (upd (((X.wth 0).wpa (upd (X.wth 0).pa 0 (nI j))).wpa (upd ((X.wth 0).wpa (upd (X.wth 0).pa 0 (nI j))).pa 1 (nI k))).po 0 0)).su 0 0)).wpo (upd (((((X.wth 0).wpa (upd (X.wth 0).pa 0 (nI j))).wpa (upd ((X.wth 0).wpa (upd (X.wth 0).pa 0 (nI j))).pa 1 (nI k))).wpo (upd (((X.wth 0).wpa (upd (X.wth 0).pa 0 (nI j))).wpa (upd ((X.wth 0).wpa (upd (X.wth 0).pa 0 (nI j))).pa 1 (nI k))).po 0 0)).wsu (upd ((((X.wth 0).wpa (upd (X.wth 0).pa 0 (nI j))).wpa (upd ((X.wth 0).wpa (upd (X.wth 0).pa 0 (nI j))).pa 1 (nI k))).wpo (upd (((X.wth 0).wpa (upd (X.wth 0).pa 0 (nI j))).wpa (upd ((X.wth 0).wpa (upd (X.wth 0).pa 0 (nI j))).pa 1 (nI k))).po 0 0)).su 0 0)).po 1 0)).su 1 0)).wT 0).wil 0) rfl rfl rfl, hF8.mpw (m0 (by decide))⟩ (fun μ9 hq => ?_)
              obtain ⟨hM9, hF9⟩ := hq
              refine aw_aload_n C dX7_match_138 rfl ?_
              refine aw_dup C rfl dX7_match_139 ?_
              refine aw_get C f250 hM9.mo rfl dX7_match_140 ?_
              refine aw_iconst C (v := 1) (by decide) dX7_match_143 ?_
              refine aw_iadd C dX7_match_144 ?_
              refine aw_putE C f250 ftX7 (ty := .int) (by decide +kernel) rfl rfl hM9.mo (Nat.le_of_ble_eq_true rfl) (fs' := [.int ((((((((((X.wth 0).wpa (upd (X.wth 0).pa 0 (nI j))).wpa (upd ((X.wth 0).wpa (upd (X.wth 0).pa 0 (nI j))).pa 1 (nI k))).wpo (upd (((X.wth 0).wpa (upd (X.wth 0).pa 0 (nI j))).wpa (upd ((X.wth 0).wpa (upd (X.wth 0).pa 0 (nI j))).pa 1 (nI k))).po 0 0)).wsu (upd ((((X.wth 0).wpa (upd (X.wth 0).pa 0 (nI j))).wpa (upd ((X.wth 0).wpa (upd (X.wth 0).pa 0 (nI j))).pa 1 (nI k))).wpo (upd (((X.wth 0).wpa (upd (X.wth 0).pa 0 (nI j))).wpa (upd ((X.wth 0).wpa (upd (X.wth 0).pa 0 (nI j))).pa 1 (nI k))).po 0 0)).su 0 0)).wpo (upd (((((X.wth 0).wpa (upd (X.wth 0).pa 0 (nI j))).wpa (upd ((X.wth 0).wpa (upd (X.wth 0).pa 0 (nI j))).pa 1 (nI k))).wpo (upd (((X.wth 0).wpa (upd (X.wth 0).pa 0 (nI j))).wpa (upd ((X.wth 0).wpa (upd (X.wth 0).pa 0 (nI j))).pa 1 (nI k))).po 0 0)).wsu (upd ((((X.wth 0).wpa (upd (X.wth 0).pa 0 (nI j))).wpa (upd ((X.wth 0).wpa (upd (X.wth 0).pa 0 (nI j))).pa 1 (nI k))).wpo (upd (((X.wth 0).wpa (upd (X.wth 0).pa 0 (nI j))).wpa (upd ((X.wth 0).wpa (upd (X.wth 0).pa 0 (nI j))).pa 1 (nI k))).po 0 0)).su 0 0)).po 1 0)).wsu (upd ((((((X.wth 0).wpa (upd (X.wth 0).pa 0 (nI j))).wpa (upd ((X.wth 0).wpa (upd (X.wth 0).pa 0 (nI j))).pa 1 (nI k))).wpo (upd (((X.wth 0).wpa (upd (X.wth 0).pa 0 (nI j))).wpa (upd ((X.wth 0).wpa (upd (X.wth 0).pa 0 (nI j))).pa 1 (nI k))).po 0 0)).wsu (upd ((((X.wth 0).wpa (upd (X.wth 0).pa 0 (nI j))).wpa (upd ((X.wth 0).wpa (upd (X.wth 0).pa 0 (nI j))).pa 1 (nI k))).wpo (upd (((X.wth 0).wpa (upd (X.wth 0).pa 0 (nI j))).wpa (upd ((X.wth 0).wpa (upd (X.wth 0).pa 0 (nI j))).pa 1 (nI k))).po 0 0)).su 0 0)).wpo (upd (((((X.wth 0).wpa (upd (X.wth 0).pa 0 (nI j))).wpa (upd ((X.wth 0).wpa (upd (X.wth 0).pa 0 (nI j))).pa 1 (nI k))).wpo (upd (((X.wth 0).wpa (upd (X.wth 0).pa 0 (nI j))).wpa (upd ((X.wth 0).wpa (upd (X.wth 0).pa 0 (nI j))).pa 1 (nI k))).po 0 0)).wsu (upd ((((X.wth 0).wpa (upd (X.wth 0).pa 0 (nI j))).wpa (upd ((X.wth 0).wpa (upd (X.wth 0).pa 0 (nI j))).pa 1 (nI k))).wpo (upd (((X.wth 0).wpa (upd (X.wth 0).pa 0 (nI j))).wpa (upd ((X.wth 0).wpa (upd (X.wth 0).pa 0 (nI j))).pa 1 (nI k))).po 0 0)).su 0 0)).po 1 0)).su 1 0)).wT 0).wil 0).th), .ref (K 1 0), .ref (K 2 0), .int (S.c 4), .int (S.c 5), .int (S.c 6), .int (S.c 9), .int (S.c 10), .int (S.c 8), .int ((S.c 13) + 1), .int (S.c 7), .int (S.c 11), .int (S.c 14), .ref (K 3 0), .ref (K 4 0), .ref (K 5 0), .double ((((((((((X.wth 0).wpa (upd (X.wth 0).pa 0 (nI j))).wpa (upd ((X.wth 0).wpa (upd (X.wth 0).pa 0 (nI j))).pa 1 (nI k))).wpo (upd (((X.wth 0).wpa (upd (X.wth 0).pa 0 (nI j))).wpa (upd ((X.wth 0).wpa (upd (X.wth 0).pa 0 (nI j))).pa 1 (nI k))).po 0 0)).wsu (upd ((((X.wth 0).wpa (upd (X.wth 0).pa 0 (nI j))).wpa (upd ((X.wth 0).wpa (upd (X.wth 0).pa 0 (nI j))).pa 1 (nI k))).wpo (upd (((X.wth 0).wpa (upd (X.wth 0).pa 0 (nI j))).wpa (upd ((X.wth 0).wpa (upd (X.wth 0).pa 0 (nI j))).pa 1 (nI k))).po 0 0)).su 0 0)).wpo (upd (((((X.wth 0).wpa (upd (X.wth 0).pa 0 (nI j))).wpa (upd ((X.wth 0).wpa (upd (X.wth 0).pa 0 (nI j))).pa 1 (nI k))).wpo (upd (((X.wth 0).wpa (upd (X.wth 0).pa 0 (nI j))).wpa (upd ((X.wth 0).wpa (upd (X.wth 0).pa 0 (nI j))).pa 1 (nI k))).po 0 0)).wsu (upd ((((X.wth 0).wpa (upd (X.wth 0).pa 0 (nI j))).wpa (upd ((X.wth 0).wpa (upd (X.wth 0).pa 0 (nI j))).pa 1 (nI k))).wpo (upd (((X.wth 0).wpa (upd (X.wth 0).pa 0 (nI j))).wpa (upd ((X.wth 0).wpa (upd (X.wth 0).pa 0 (nI j))).pa 1 (nI k))).po 0 0)).su 0 0)).po 1 0)).wsu (upd ((((((X.wth 0).wpa (upd (X.wth 0).pa 0 (nI j))).wpa (upd ((X.wth 0).wpa (upd (X.wth 0).pa 0 (nI j))).pa 1 (nI k))).wpo (upd (((X.wth 0).wpa (upd (X.wth 0).pa 0 (nI j))).wpa (upd ((X.wth 0).wpa (upd (X.wth 0).pa 0 (nI j))).pa 1 (nI k))).po 0 0)).wsu (upd ((((X.wth 0).wpa (upd (X.wth 0).pa 0 (nI j))).wpa (upd ((X.wth 0).wpa (upd (X.wth 0).pa 0 (nI j))).pa 1 (nI k))).wpo (upd (((X.wth 0).wpa (upd (X.wth 0).pa 0 (nI j))).wpa (upd ((X.wth 0).wpa (upd (X.wth 0).pa 0 (nI j))).pa 1 (nI k))).po 0 0)).su 0 0)).wpo (upd (((((X.wth 0).wpa (upd (X.wth 0).pa 0 (nI j))).wpa (upd ((X.wth 0).wpa (upd (X.wth 0).pa 0 (nI j))).pa 1 (nI k))).wpo (upd (((X.wth 0).wpa (upd (X.wth 0).pa 0 (nI j))).wpa (upd ((X.wth 0).wpa (upd (X.wth 0).pa 0 (nI j))).pa 1 (nI k))).po 0 0)).wsu (upd ((((X.wth 0).wpa (upd (X.wth 0).pa 0 (nI j))).wpa (upd ((X.wth 0).wpa (upd (X.wth 0).pa 0 (nI j))).pa 1 (nI k))).wpo (upd (((X.wth 0).wpa (upd (X.wth 0).pa 0 (nI j))).wpa (upd ((X.wth 0).wpa (upd (X.wth 0).pa 0 (nI j))).pa 1 (nI k))).po 0 0)).su 0 0)).po 1 0)).su 1 0)).wT 0).wil 0).ne), .int (nI (((((((((X.wth 0).wpa (upd (X.wth 0).pa 0 (nI j))).wpa (upd ((X.wth 0).wpa (upd (X.wth 0).pa 0 (nI j))).pa 1 (nI k))).wpo (upd (((X.wth 0).wpa (upd (X.wth 0).pa 0 (nI j))).wpa (upd ((X.wth 0).wpa (upd (X.wth 0).pa 0 (nI j))).pa 1 (nI k))).po 0 0)).wsu (upd ((((X.wth 0).wpa (upd (X.wth 0).pa 0 (nI j))).wpa (upd ((X.wth 0).wpa (upd (X.wth 0).pa 0 (nI j))).pa 1 (nI k))).wpo (upd (((X.wth 0).wpa (upd (X.wth 0).pa 0 (nI j))).wpa (upd ((X.wth 0).wpa (upd (X.wth 0).pa 0 (nI j))).pa 1 (nI k))).po 0 0)).su 0 0)).wpo (upd (((((X.wth 0).wpa (upd (X.wth 0).pa 0 (nI j))).wpa (upd ((X.wth 0).wpa (upd (X.wth 0).pa 0 (nI j))).pa 1 (nI k))).wpo (upd (((X.wth 0).wpa (upd (X.wth 0).pa 0 (nI j))).wpa (upd ((X.wth 0).wpa (upd (X.wth 0).pa 0 (nI j))).pa 1 (nI k))).po 0 0)).wsu (upd ((((X.wth 0).wpa (upd (X.wth 0).pa 0 (nI j))).wpa (upd ((X.wth 0).wpa (upd (X.wth 0).pa 0 (nI j))).pa 1 (nI k))).wpo (upd (((X.wth 0).wpa (upd (X.wth 0).pa 0 (nI j))).wpa (upd ((X.wth 0).wpa (upd (X.wth 0).pa 0 (nI j))).pa 1 (nI k))).po 0 0)).su 0 0)).po 1 0)).wsu (upd ((((((X.wth 0).wpa (upd (X.wth 0).pa 0 (nI j))).wpa (upd ((X.wth 0).wpa (upd (X.wth 0).pa 0 (nI j))).pa 1 (nI k))).wpo (upd (((X.wth 0).wpa (upd (X.wth 0).pa 0 (nI j))).wpa (upd ((X.wth 0).wpa (upd (X.wth 0).pa 0 (nI j))).pa 1 (nI k))).po 0 0)).wsu (upd ((((X.wth 0).wpa (upd (X.wth 0).pa 0 (nI j))).wpa (upd ((X.wth 0).wpa (upd (X.wth 0).pa 0 (nI j))).pa 1 (nI k))).wpo (upd (((X.wth 0).wpa (upd (X.wth 0).pa 0 (nI j))).wpa (upd ((X.wth 0).wpa (upd (X.wth 0).pa 0 (nI j))).pa 1 (nI k))).po 0 0)).su 0 0)).wpo (upd (((((X.wth 0).wpa (upd (X.wth 0).pa 0 (nI j))).wpa (upd ((X.wth 0).wpa (upd (X.wth 0).pa 0 (nI j))).pa 1 (nI k))).wpo (upd (((X.wth 0).wpa (upd (X.wth 0).pa 0 (nI j))).wpa (upd ((X.wth 0).wpa (upd (X.wth 0).pa 0 (nI j))).pa 1 (nI k))).po 0 0)).wsu (upd ((((X.wth 0).wpa (upd (X.wth 0).pa 0 (nI j))).wpa (upd ((X.wth 0).wpa (upd (X.wth 0).pa 0 (nI j))).pa 1 (nI k))).wpo (upd (((X.wth 0).wpa (upd (X.wth 0).pa 0 (nI j))).wpa (upd ((X.wth 0).wpa (upd (X.wth 0).pa 0 (nI j))).pa 1 (nI k))).po 0 0)).su 0 0)).po 1 0)).su 1 0)).wT 0).wil 0).T), .int ((((((((((X.wth 0).wpa (upd (X.wth 0).pa 0 (nI j))).wpa (upd ((X.wth 0).wpa (upd (X.wth 0).pa 0 (nI j))).pa 1 (nI k))).wpo (upd (((X.wth 0).wpa (upd (X.wth 0).pa 0 (nI j))).wpa (upd ((X.wth 0).wpa (upd (X.wth 0).pa 0 (nI j))).pa 1 (nI k))).po 0 0)).wsu (upd ((((X.wth 0).wpa (upd (X.wth 0).pa 0 (nI j))).wpa (upd ((X.wth 0).wpa (upd (X.wth 0).pa 0 (nI j))).pa 1 (nI k))).wpo (upd (((X.wth 0).wpa (upd (X.wth 0).pa 0 (nI j))).wpa (upd ((X.wth 0).wpa (upd (X.wth 0).pa 0 (nI j))).pa 1 (nI k))).po 0 0)).su 0 0)).wpo (upd (((((X.wth 0).wpa (upd (X.wth 0).pa 0 (nI j))).wpa (upd ((X.wth 0).wpa (upd (X.wth 0).pa 0 (nI j))).pa 1 (nI k))).wpo (upd (((X.wth 0).wpa (upd (X.wth 0).pa 0 (nI j))).wpa (upd ((X.wth 0).wpa (upd (X.wth 0).pa 0 (nI j))).pa 1 (nI k))).po 0 0)).wsu (upd ((((X.wth 0).wpa (upd (X.wth 0).pa 0 (nI j))).wpa (upd ((X.wth 0).wpa (upd (X.wth 0).pa 0 (nI j))).pa 1 (nI k))).wpo (upd (((X.wth 0).wpa (upd (X.wth 0).pa 0 (nI j))).wpa (upd ((X.wth 0).wpa (upd (X.wth 0).pa 0 (nI j))).pa 1 (nI k))).po 0 0)).su 0 0)).po 1 0)).wsu (upd ((((((X.wth 0).wpa (upd (X.wth 0).pa 0 (nI j))).wpa (upd ((X.wth 0).wpa (upd (X.wth 0).pa 0 (nI j))).pa 1 (nI k))).wpo (upd (((X.wth 0).wpa (upd (X.wth 0).pa 0 (nI j))).wpa (upd ((X.wth 0).wpa (upd (X.wth 0).pa 0 (nI j))).pa 1 (nI k))).po 0 0)).wsu (upd ((((X.wth 0).wpa (upd (X.wth 0).pa 0 (nI j))).wpa (upd ((X.wth 0).wpa (upd (X.wth 0).pa 0 (nI j))).pa 1 (nI k))).wpo (upd (((X.wth 0).wpa (upd (X.wth 0).pa 0 (nI j))).wpa (upd ((X.wth 0).wpa (upd (X.wth 0).pa 0 (nI j))).pa 1 (nI k))).po 0 0)).su 0 0)).wpo (upd (((((X.wth 0).wpa (upd (X.wth 0).pa 0 (nI j))).wpa (upd ((X.wth 0).wpa (upd (X.wth 0).pa 0 (nI j))).pa 1 (nI k))).wpo (upd (((X.wth 0).wpa (upd (X.wth 0).pa 0 (nI j))).wpa (upd ((X.wth 0).wpa (upd (X.wth 0).pa 0 (nI j))).pa 1 (nI k))).po 0 0)).wsu (upd ((((X.wth 0).wpa (upd (X.wth 0).pa 0 (nI j))).wpa (upd ((X.wth 0).wpa (upd (X.wth 0).pa 0 (nI j))).pa 1 (nI k))).wpo (upd (((X.wth 0).wpa (upd (X.wth 0).pa 0 (nI j))).wpa (upd ((X.wth 0).wpa (upd (X.wth 0).pa 0 (nI j))).pa 1 (nI k))).po 0 0)).su 0 0)).po 1 0)).su 1 0)).wT 0).wil 0).il), .double ((((((((((X.wth 0).wpa (upd (X.wth 0).pa 0 (nI j))).wpa (upd ((X.wth 0).wpa (upd (X.wth 0).pa 0 (nI j))).pa 1 (nI k))).wpo (upd (((X.wth 0).wpa (upd (X.wth 0).pa 0 (nI j))).wpa (upd ((X.wth 0).wpa (upd (X.wth 0).pa 0 (nI j))).pa 1 (nI k))).po 0 0)).wsu (upd ((((X.wth 0).wpa (upd (X.wth 0).pa 0 (nI j))).wpa (upd ((X.wth 0).wpa (upd (X.wth 0).pa 0 (nI j))).pa 1 (nI k))).wpo (upd (((X.wth 0).wpa (upd (X.wth 0).pa 0 (nI j))).wpa (upd ((X.wth 0).wpa (upd (X.wth 0).pa 0 (nI j))).pa 1 (nI k))).po 0 0)).su 0 0)).wpo (upd (((((X.wth 0).wpa (upd (X.wth 0).pa 0 (nI j))).wpa (upd ((X.wth 0).wpa (upd (X.wth 0).pa 0 (nI j))).pa 1 (nI k))).wpo (upd (((X.wth 0).wpa (upd (X.wth 0).pa 0 (nI j))).wpa (upd ((X.wth 0).wpa (upd (X.wth 0).pa 0 (nI j))).pa 1 (nI k))).po 0 0)).wsu (upd ((((X.wth 0).wpa (upd (X.wth 0).pa 0 (nI j))).wpa (upd ((X.wth 0).wpa (upd (X.wth 0).pa 0 (nI j))).pa 1 (nI k))).wpo (upd (((X.wth 0).wpa (upd (X.wth 0).pa 0 (nI j))).wpa (upd ((X.wth 0).wpa (upd (X.wth 0).pa 0 (nI j))).pa 1 (nI k))).po 0 0)).su 0 0)).po 1 0)).wsu (upd ((((((X.wth 0).wpa (upd (X.wth 0).pa 0 (nI j))).wpa (upd ((X.wth 0).wpa (upd (X.wth 0).pa 0 (nI j))).pa 1 (nI k))).wpo (upd (((X.wth 0).wpa (upd (X.wth 0).pa 0 (nI j))).wpa (upd ((X.wth 0).wpa (upd (X.wth 0).pa 0 (nI j))).pa 1 (nI k))).po 0 0)).wsu (upd ((((X.wth 0).wpa (upd (X.wth 0).pa 0 (nI j))).wpa (upd ((X.wth 0).wpa (upd (X.wth 0).pa 0 (nI j))).pa 1 (nI k))).wpo (upd (((X.wth 0).wpa (upd (X.wth 0).pa 0 (nI j))).wpa (upd ((X.wth 0).wpa (upd (X.wth 0).pa 0 (nI j))).pa 1 (nI k))).po 0 0)).su 0 0)).wpo (upd (((((X.wth 0).wpa (upd (X.wth 0).pa 0 (nI j))).wpa (upd ((X.wth 0).wpa (upd (X.wth 0).pa 0 (nI j))).pa 1 (nI k))).wpo (upd (((X.wth 0).wpa (upd (X.wth 0).pa 0 (nI j))).wpa (upd ((X.wth 0).wpa (upd (X.wth 0).pa 0 (nI j))).pa 1 (nI k))).po 0 0)).wsu (upd ((((X.wth 0).wpa (upd (X.wth 0).pa 0 (nI j))).wpa (upd ((X.wth 0).wpa (upd (X.wth 0).pa 0 (nI j))).pa 1 (nI k))).wpo (upd (((X.wth 0).wpa (upd (X.wth 0).pa 0 (nI j))).wpa (upd ((X.wth 0).wpa (upd (X.wth 0).pa 0 (nI j))).pa 1 (nI k))).po 0 0)).su 0 0)).po 1 0)).su 1 0)).wT 0).wil 0).h), .double ((((((((((X.wth 0).wpa (upd (X.wth 0).pa 0 (nI j))).wpa (upd ((X.wth 0).wpa (upd (X.wth 0).pa 0 (nI j))).pa 1 (nI k))).wpo (upd (((X.wth 0).wpa (upd (X.wth 0).pa 0 (nI j))).wpa (upd ((X.wth 0).wpa (upd (X.wth 0).pa 0 (nI j))).pa 1 (nI k))).po 0 0)).wsu (upd ((((X.wth 0).wpa (upd (X.wth 0).pa 0 (nI j))).wpa (upd ((X.wth 0).wpa (upd (X.wth 0).pa 0 (nI j))).pa 1 (nI k))).wpo (upd (((X.wth 0).wpa (upd (X.wth 0).pa 0 (nI j))).wpa (upd ((X.wth 0).wpa (upd (X.wth 0).pa 0 (nI j))).pa 1 (nI k))).po 0 0)).su 0 0)).wpo (upd (((((X.wth 0).wpa (upd (X.wth 0).pa 0 (nI j))).wpa (upd ((X.wth 0).wpa (upd (X.wth 0).pa 0 (nI j))).pa 1 (nI k))).wpo (upd (((X.wth 0).wpa (upd (X.wth 0).pa 0 (nI j))).wpa (upd ((X.wth 0).wpa (upd (X.wth 0).pa 0 (nI j))).pa 1 (nI k))).po 0 0)).wsu (upd ((((X.wth 0).wpa (upd (X.wth 0).pa 0 (nI j))).wpa (upd ((X.wth 0).wpa (upd (X.wth 0).pa 0 (nI j))).pa 1 (nI k))).wpo (upd (((X.wth 0).wpa (upd (X.wth 0).pa 0 (nI j))).wpa (upd ((X.wth 0).wpa (upd (X.wth 0).pa 0 (nI j))).pa 1 (nI k))).po 0 0)).su 0 0)).po 1 0)).wsu (upd ((((((X.wth 0).wpa (upd (X.wth 0).pa 0 (nI j))).wpa (upd ((X.wth 0).wpa (upd (X.wth 0).pa 0 (nI j))).pa 1 (nI k))).wpo (upd (((X.wth 0).wpa (upd (X.wth 0).pa 0 (nI j))).wpa (upd ((X.wth 0).wpa (upd (X.wth 0).pa 0 (nI j))).pa 1 (nI k))).po 0 0)).wsu (upd ((((X.wth 0).wpa (upd (X.wth 0).pa 0 (nI j))).wpa (upd ((X.wth 0).wpa (upd (X.wth 0).pa 0 (nI j))).pa 1 (nI k))).wpo (upd (((X.wth 0).wpa (upd (X.wth 0).pa 0 (nI j))).wpa (upd ((X.wth 0).wpa (upd (X.wth 0).pa 0 (nI j))).pa 1 (nI k))).po 0 0)).su 0 0)).wpo (upd (((((X.wth 0).wpa (upd (X.wth 0).pa 0 (nI j))).wpa (upd ((X.wth 0).wpa (upd (X.wth 0).pa 0 (nI j))).pa 1 (nI k))).wpo (upd (((X.wth 0).wpa (upd (X.wth 0).pa 0 (nI j))).wpa (upd ((X.wth 0).wpa (upd (X.wth 0).pa 0 (nI j))).pa 1 (nI k))).po 0 0)).wsu (upd ((((X.wth 0).wpa (upd (X.wth 0).pa 0 (nI j))).wpa (upd ((X.wth 0).wpa (upd (X.wth 0).pa 0 (nI j))).pa 1 (nI k))).wpo (upd (((X.wth 0).wpa (upd (X.wth 0).pa 0 (nI j))).wpa (upd ((X.wth 0).wpa (upd (X.wth 0).pa 0 (nI j))).pa 1 (nI k))).po 0 0)).su 0 0)).po 1 0)).su 1 0)).wT 0).wil 0).v), .long ((((((((((X.wth 0).wpa (upd (X.wth 0).pa 0 (nI j))).wpa (upd ((X.wth 0).wpa (upd (X.wth 0).pa 0 (nI j))).pa 1 (nI k))).wpo (upd (((X.wth 0).wpa (upd (X.wth 0).pa 0 (nI j))).wpa (upd ((X.wth 0).wpa (upd (X.wth 0).pa 0 (nI j))).pa 1 (nI k))).po 0 0)).wsu (upd ((((X.wth 0).wpa (upd (X.wth 0).pa 0 (nI j))).wpa (upd ((X.wth 0).wpa (upd (X.wth 0).pa 0 (nI j))).pa 1 (nI k))).wpo (upd (((X.wth 0).wpa (upd (X.wth 0).pa 0 (nI j))).wpa (upd ((X.wth 0).wpa (upd (X.wth 0).pa 0 (nI j))).pa 1 (nI k))).po 0 0)).su 0 0)).wpo (upd (((((X.wth 0).wpa (upd (X.wth 0).pa 0 (nI j))).wpa (upd ((X.wth 0).wpa (upd (X.wth 0).pa 0 (nI j))).pa 1 (nI k))).wpo (upd (((X.wth 0).wpa (upd (X.wth 0).pa 0 (nI j))).wpa (upd ((X.wth 0).wpa (upd (X.wth 0).pa 0 (nI j))).pa 1 (nI k))).po 0 0)).wsu (upd ((((X.wth 0).wpa (upd (X.wth 0).pa 0 (nI j))).wpa (upd ((X.wth 0).wpa (upd (X.wth 0).pa 0 (nI j))).pa 1 (nI k))).wpo (upd (((X.wth 0).wpa (upd (X.wth 0).pa 0 (nI j))).wpa (upd ((X.wth 0).wpa (upd (X.wth 0).pa 0 (nI j))).pa 1 (nI k))).po 0 0)).su 0 0)).po 1 0)).wsu (upd ((((((X.wth 0).wpa (upd (X.wth 0).pa 0 (nI j))).wpa (upd ((X.wth 0).wpa (upd (X.wth 0).pa 0 (nI j))).pa 1 (nI k))).wpo (upd (((X.wth 0).wpa (upd (X.wth 0).pa 0 (nI j))).wpa (upd ((X.wth 0).wpa (upd (X.wth 0).pa 0 (nI j))).pa 1 (nI k))).po 0 0)).wsu (upd ((((X.wth 0).wpa (upd (X.wth 0).pa 0 (nI j))).wpa (upd ((X.wth 0).wpa (upd (X.wth 0).pa 0 (nI j))).pa 1 (nI k))).wpo (upd (((X.wth 0).wpa (upd (X.wth 0).pa 0 (nI j))).wpa (upd ((X.wth 0).wpa (upd (X.wth 0).pa 0 (nI j))).pa 1 (nI k))).po 0 0)).su 0 0)).wpo (upd (((((X.wth 0).wpa (upd (X.wth 0).pa 0 (nI j))).wpa (upd ((X.wth 0).wpa (upd (X.wth 0).pa 0 (nI j))).pa 1 (nI k))).wpo (upd (((X.wth 0).wpa (upd (X.wth 0).pa 0 (nI j))).wpa (upd ((X.wth 0).wpa (upd (X.wth 0).pa 0 (nI j))).pa 1 (nI k))).po 0 0)).wsu (upd ((((X.wth 0).wpa (upd (X.wth 0).pa 0 (nI j))).wpa (upd ((X.wth 0).wpa (upd (X.wth 0).pa 0 (nI j))).pa 1 (nI k))).wpo (upd (((X.wth 0).wpa (upd (X.wth 0).pa 0 (nI j))).wpa (upd ((X.wth 0).wpa (upd (X.wth 0).pa 0 (nI j))).pa 1 (nI k))).po 0 0)).su 0 0)).po 1 0)).su 1 0)).wT 0).wil 0).sm)]) rfl dX7_match_145 ?_
              refine aw_re (P := fun μ1 => RM g K e0 (S.wc (upd S.c 13 ((S.c 13) + 1))) (((((((((X.wth 0).wpa (upd (X.wth 0).pa 0 (nI j))).wpa (upd ((X.wth 0).wpa (upd (X.wth 0).pa 0 (nI j))).pa 1 (nI k))).wpo (upd (((X.wth 0).wpa (upd (X.wth 0).pa 0 (nI j))).wpa (upd ((X.wth 0).wpa (upd (X.wth 0).pa 0 (nI j))).pa 1 (nI k))).po 0 0)).wsu (upd ((((X.wth 0).wpa (upd (X.wth 0).pa 0 (nI j))).wpa (upd ((X.wth 0).wpa (upd (X.wth 0).pa 0 (nI j))).pa 1 (nI k))).wpo (upd (((X.wth 0).wpa (upd (X.wth 0).pa 0 (nI j))).wpa (upd ((X.wth 0).wpa (upd (X.wth 0).pa 0 (nI j))).pa 1 (nI k))).po 0 0)).su 0 0)).wpo (upd (((((X.wth 0).wpa (upd (X.wth 0).pa 0 (nI j))).wpa (upd ((X.wth 0).wpa (upd (X.wth 0).pa 0 (nI j))).pa 1 (nI k))).wpo (upd (((X.wth 0).wpa (upd (X.wth 0).pa 0 (nI j))).wpa (upd ((X.wth 0).wpa (upd (X.wth 0).pa 0 (nI j))).pa 1 (nI k))).po 0 0)).wsu (upd ((((X.wth 0).wpa (upd (X.wth 0).pa 0 (nI j))).wpa (upd ((X.wth 0).wpa (upd (X.wth 0).pa 0 (nI j))).pa 1 (nI k))).wpo (upd (((X.wth 0).wpa (upd (X.wth 0).pa 0 (nI j))).wpa (upd ((X.wth 0).wpa (upd (X.wth 0).pa 0 (nI j))).pa 1 (nI k))).po 0 0)).su 0 0)).po 1 0)).wsu (upd ((((((X.wth 0).wpa (upd (X.wth 0).pa 0 (nI j))).wpa (upd ((X.wth 0).wpa (upd (X.wth 0).pa 0 (nI j))).pa 1 (nI k))).wpo (upd (((X.wth 0).wpa (upd (X.wth 0).pa 0 (nI j))).wpa (upd ((X.wth 0).wpa (upd (X.wth 0).pa 0 (nI j))).pa 1 (nI k))).po 0 0)).wsu (upd ((((X.wth 0).wpa (upd (X.wth 0).pa 0 (nI j))).wpa (upd ((X.wth 0).wpa (upd (X.wth 0).pa 0 (nI j))).pa 1 (nI k))).wpo (upd (((X.wth 0).wpa (upd (X.wth 0).pa 0 (nI j))).wpa (upd ((X.wth 0).wpa (upd (X.wth 0).pa 0 (nI j))).pa 1 (nI k))).po 0 0)).su 0 0)).wpo (upd (((((X.wth 0).wpa (upd (X.wth 0).pa 0 (nI j))).wpa (upd ((X.wth 0).wpa (upd (X.wth 0).pa 0 (nI j))).pa 1 (nI k))).wpo (upd (((X.wth 0).wpa (upd (X.wth 0).pa 0 (nI j))).wpa (upd ((X.wth 0).wpa (upd (X.wth 0).pa 0 (nI j))).pa 1 (nI k))).po 0 0)).wsu (upd ((((X.wth 0).wpa (upd (X.wth 0).pa 0 (nI j))).wpa (upd ((X.wth 0).wpa (upd (X.wth 0).pa 0 (nI j))).pa 1 (nI k))).wpo (upd (((X.wth 0).wpa (upd (X.wth 0).pa 0 (nI j))).wpa (upd ((X.wth 0).wpa (upd (X.wth 0).pa 0 (nI j))).pa 1 (nI k))).po 0 0)).su 0 0)).po 1 0)).su 1 0)).wT 0).wil 0) μ1 ∧ FrM K S.nA S.nQ μ μ1) ⟨hM9.setMo (upd S.c 13 ((S.c 13) + 1)) (((((((((X.wth 0).wpa (upd (X.wth 0).pa 0 (nI j))).wpa (upd ((X.wth 0).wpa (upd (X.wth 0).pa 0 (nI j))).pa 1 (nI k))).wpo (upd (((X.wth 0).wpa (upd (X.wth 0).pa 0 (nI j))).wpa (upd ((X.wth 0).wpa (upd (X.wth 0).pa 0 (nI j))).pa 1 (nI k))).po 0 0)).wsu (upd ((((X.wth 0).wpa (upd (X.wth 0).pa 0 (nI j))).wpa (upd ((X.wth 0).wpa (upd (X.wth 0).pa 0 (nI j))).pa 1 (nI k))).wpo (upd (((X.wth 0).wpa (upd (X.wth 0).pa 0 (nI j))).wpa (upd ((X.wth 0).wpa (upd (X.wth 0).pa 0 (nI j))).pa 1 (nI k))).po 0 0)).su 0 0)).wpo (upd (((((X.wth 0).wpa (upd (X.wth 0).pa 0 (nI j))).wpa (upd ((X.wth 0).wpa (upd (X.wth 0).pa 0 (nI j))).pa 1 (nI k))).wpo (upd (((X.wth 0).wpa (upd (X.wth 0).pa 0 (nI j))).wpa (upd ((X.wth 0).wpa (upd (X.wth 0).pa 0 (nI j))).pa 1 (nI k))).po 0 0)).wsu (upd ((((X.wth 0).wpa (upd (X.wth 0).pa 0 (nI j))).wpa (upd ((X.wth 0).wpa (upd (X.wth 0).pa 0 (nI j))).pa 1 (nI k))).wpo (upd (((X.wth 0).wpa (upd (X.wth 0).pa 0 (nI j))).wpa (upd ((X.wth 0).wpa (upd (X.wth 0).pa 0 (nI j))).pa 1 (nI k))).po 0 0)).su 0 0)).po 1 0)).wsu (upd ((((((X.wth 0).wpa (upd (X.wth 0).pa 0 (nI j))).wpa (upd ((X.wth 0).wpa (upd (X.wth 0).pa 0 (nI j))).pa 1 (nI k))).wpo (upd (((X.wth 0).wpa (upd (X.wth 0).pa 0 (nI j))).wpa (upd ((X.wth 0).wpa (upd (X.wth 0).pa 0 (nI j))).pa 1 (nI k))).po 0 0)).wsu (upd ((((X.wth 0).wpa (upd (X.wth 0).pa 0 (nI j))).wpa (upd ((X.wth 0).wpa (upd (X.wth 0).pa 0 (nI j))).pa 1 (nI k))).wpo (upd (((X.wth 0).wpa (upd (X.wth 0).pa 0 (nI j))).wpa (upd ((X.wth 0).wpa (upd (X.wth 0).pa 0 (nI j))).pa 1 (nI k))).po 0 0)).su 0 0)).wpo (upd (((((X.wth 0).wpa (upd (X.wth 0).pa 0 (nI j))).wpa (upd ((X.wth 0).wpa (upd (X.wth 0).pa 0 (nI j))).pa 1 (nI k))).wpo (upd (((X.wth 0).wpa (upd (X.wth 0).pa 0 (nI j))).wpa (upd ((X.wth 0).wpa (upd (X.wth 0).pa 0 (nI j))).pa 1 (nI k))).po 0 0)).wsu (upd ((((X.wth 0).wpa (upd (X.wth 0).pa 0 (nI j))).wpa (upd ((X.wth 0).wpa (upd (X.wth 0).pa 0 (nI j))).pa 1 (nI k))).wpo (upd (((X.wth 0).wpa (upd (X.wth 0).pa 0 (nI j))).wpa (upd ((X.wth 0).wpa (upd (X.wth 0).pa 0 (nI j))).pa 1 (nI k))).po 0 0)).su 0 0)).po 1 0)).su 1 0)).wT 0).wil 0) rfl rfl rfl, hF9.mpw (m0 (by decide))⟩ (fun μ10 hq => ?_)
              obtain ⟨hM10, hF10⟩ := hq
              refine aw_aload_n C dX7_match_148 rfl ?_
              refine aw_get C f250 hM10.mo rfl dX7_match_149 ?_
              refine aw_iret C hQe ?_ (by omega) (by omega) dX7_match_152
              have ej6 : ix (nI j) = j := ix_nI hj (by have := hI.A6; omega)
              have ek6 : ix (nI k) = k := ix_nI hk (by have := hI.A6; omega)
              have hc : maC S (nI j) (nI k) = 0 := by simp [maC, b7, b15, c_29, b39, c_60, c_78, ej6, ek6]
              rw [hc]
              exact ⟨⟨_, rfl, fun _ => rfl⟩, ⟨((((((((X.wth 0).wpa (upd (X.wth 0).pa 0 (nI j))).wpa (upd ((X.wth 0).wpa (upd (X.wth 0).pa 0 (nI j))).pa 1 (nI k))).wpo (upd (((X.wth 0).wpa (upd (X.wth 0).pa 0 (nI j))).wpa (upd ((X.wth 0).wpa (upd (X.wth 0).pa 0 (nI j))).pa 1 (nI k))).po 0 0)).wsu (upd ((((X.wth 0).wpa (upd (X.wth 0).pa 0 (nI j))).wpa (upd ((X.wth 0).wpa (upd (X.wth 0).pa 0 (nI j))).pa 1 (nI k))).wpo (upd (((X.wth 0).wpa (upd (X.wth 0).pa 0 (nI j))).wpa (upd ((X.wth 0).wpa (upd (X.wth 0).pa 0 (nI j))).pa 1 (nI k))).po 0 0)).su 0 0)).wpo (upd (((((X.wth 0).wpa (upd (X.wth 0).pa 0 (nI j))).wpa (upd ((X.wth 0).wpa (upd (X.wth 0).pa 0 (nI j))).pa 1 (nI k))).wpo (upd (((X.wth 0).wpa (upd (X.wth 0).pa 0 (nI j))).wpa (upd ((X.wth 0).wpa (upd (X.wth 0).pa 0 (nI j))).pa 1 (nI k))).po 0 0)).wsu (upd ((((X.wth 0).wpa (upd (X.wth 0).pa 0 (nI j))).wpa (upd ((X.wth 0).wpa (upd (X.wth 0).pa 0 (nI j))).pa 1 (nI k))).wpo (upd (((X.wth 0).wpa (upd (X.wth 0).pa 0 (nI j))).wpa (upd ((X.wth 0).wpa (upd (X.wth 0).pa 0 (nI j))).pa 1 (nI k))).po 0 0)).su 0 0)).po 1 0)).wsu (upd ((((((X.wth 0).wpa (upd (X.wth 0).pa 0 (nI j))).wpa (upd ((X.wth 0).wpa (upd (X.wth 0).pa 0 (nI j))).pa 1 (nI k))).wpo (upd (((X.wth 0).wpa (upd (X.wth 0).pa 0 (nI j))).wpa (upd ((X.wth 0).wpa (upd (X.wth 0).pa 0 (nI j))).pa 1 (nI k))).po 0 0)).wsu (upd ((((X.wth 0).wpa (upd (X.wth 0).pa 0 (nI j))).wpa (upd ((X.wth 0).wpa (upd (X.wth 0).pa 0 (nI j))).pa 1 (nI k))).wpo (upd (((X.wth 0).wpa (upd (X.wth 0).pa 0 (nI j))).wpa (upd ((X.wth 0).wpa (upd (X.wth 0).pa 0 (nI j))).pa 1 (nI k))).po 0 0)).su 0 0)).wpo (upd (((((X.wth 0).wpa (upd (X.wth 0).pa 0 (nI j))).wpa (upd ((X.wth 0).wpa (upd (X.wth 0).pa 0 (nI j))).pa 1 (nI k))).wpo (upd (((X.wth 0).wpa (upd (X.wth 0).pa 0 (nI j))).wpa (upd ((X.wth 0).wpa (upd (X.wth 0).pa 0 (nI j))).pa 1 (nI k))).po 0 0)).wsu (upd ((((X.wth 0).wpa (upd (X.wth 0).pa 0 (nI j))).wpa (upd ((X.wth 0).wpa (upd (X.wth 0).pa 0 (nI j))).pa 1 (nI k))).wpo (upd (((X.wth 0).wpa (upd (X.wth 0).pa 0 (nI j))).wpa (upd ((X.wth 0).wpa (upd (X.wth 0).pa 0 (nI j))).pa 1 (nI k))).po 0 0)).su 0 0)).po 1 0)).su 1 0)).wT 0).wil 0, (hM10.wt (bgT (nI j) (nI k))), ⟨Nat.zero_le _, fun q => absurd q (by show ¬ (1 : Int32) = 0; decide), fun _ => ⟨rfl, rfl, rfl, rfl, rfl, rfl, rfl, fun _ => rfl, fun q => absurd rfl q⟩⟩, rfl⟩, hF10⟩
            · refine aw_aload_n C dX7_match_81 rfl ?_
              refine aw_iconst C (v := 3) (by decide) dX7_match_82 ?_
              refine aw_callV (n := 1) C hE (ci := 9) (q := (RX7, TX7, 22)) (k_X7_refuse (x := 3) B hM1) gX7_match_X7_refuse rfl ⟨rfl, rfl⟩ (by decide +kernel) ⟨by decide, by decide⟩ rfl rfl hM1.mo rfl (Nat.le_of_ble_eq_true rfl) dX7_match_83 ⟨by decide, by decide⟩ (fun v μ' hp => ?_)
              obtain ⟨rfl, hM2, hG2⟩ := hp
              have hF2 : FrM K S.nA S.nQ μ _ := hF1.tr hG2
              refine aw_st (st' := [.int 0]) rfl ?_
              refine aw_iret C hQe ?_ (by omega) (by omega) dX7_match_86
              have ej6 : ix (nI j) = j := ix_nI hj (by have := hI.A6; omega)
              have ek6 : ix (nI k) = k := ix_nI hk (by have := hI.A6; omega)
              have hc : maC S (nI j) (nI k) = 3 := by simp [maC, b7, b15, c_29, b39, c_60, c_78, ej6, ek6]
              rw [hc]
              exact ⟨⟨_, rfl, fun q => absurd q (by decide)⟩, ⟨(X.wth 0).wth 3, hM2, hR, rfl⟩, hF2⟩
        · refine aw_eqi (y := 1) (if_neg b39) ?_
          refine aw_if_ne C (tgt := 81) dX7_match_42 (by decide) (fun _ => ?_) (fun c9 => absurd c9 (by decide))
          refine aw_aload_n C dX7_match_81 rfl ?_
          refine aw_iconst C (v := 3) (by decide) dX7_match_82 ?_
          refine aw_callV (n := 1) C hE (ci := 9) (q := (RX7, TX7, 22)) (k_X7_refuse (x := 3) B hM1) gX7_match_X7_refuse rfl ⟨rfl, rfl⟩ (by decide +kernel) ⟨by decide, by decide⟩ rfl rfl hM1.mo rfl (Nat.le_of_ble_eq_true rfl) dX7_match_83 ⟨by decide, by decide⟩ (fun v μ' hp => ?_)
          obtain ⟨rfl, hM2, hG2⟩ := hp
          have hF2 : FrM K S.nA S.nQ μ _ := hF1.tr hG2
          refine aw_st (st' := [.int 0]) rfl ?_
          refine aw_iret C hQe ?_ (by omega) (by omega) dX7_match_86
          have ej6 : ix (nI j) = j := ix_nI hj (by have := hI.A6; omega)
          have ek6 : ix (nI k) = k := ix_nI hk (by have := hI.A6; omega)
          have hc : maC S (nI j) (nI k) = 3 := by simp [maC, b7, b15, c_29, b39, ej6, ek6]
          rw [hc]
          exact ⟨⟨_, rfl, fun q => absurd q (by decide)⟩, ⟨(X.wth 0).wth 3, hM2, hR, rfl⟩, hF2⟩
      · refine aw_aload_n C dX7_match_32 rfl ?_
        refine aw_iconst C (v := 2) (by decide) dX7_match_33 ?_
        refine aw_callV (n := 1) C hE (ci := 9) (q := (RX7, TX7, 22)) (k_X7_refuse (x := 2) B hM1) gX7_match_X7_refuse rfl ⟨rfl, rfl⟩ (by decide +kernel) ⟨by decide, by decide⟩ rfl rfl hM1.mo rfl (Nat.le_of_ble_eq_true rfl) dX7_match_34 ⟨by decide, by decide⟩ (fun v μ' hp => ?_)
        obtain ⟨rfl, hM2, hG2⟩ := hp
        have hF2 : FrM K S.nA S.nQ μ _ := hF1.tr hG2
        refine aw_st (st' := [.int 0]) rfl ?_
        refine aw_iret C hQe ?_ (by omega) (by omega) dX7_match_37
        have hc : maC S (nI j) (nI k) = 2 := by simp [maC, b7, b15, c_29]
        rw [hc]
        exact ⟨⟨_, rfl, fun q => absurd q (by decide)⟩, ⟨(X.wth 0).wth 2, hM2, hR, rfl⟩, hF2⟩
    · refine aw_eqi (y := 0) (if_neg b15) ?_
      refine aw_if_ne C (tgt := 27) dX7_match_18 (by decide) (fun c9 => absurd (by decide) c9) (fun _ => ?_)
      refine aw_aload_n C dX7_match_21 rfl ?_
      refine aw_iconst C (v := 1) (by decide) dX7_match_22 ?_
      refine aw_callV (n := 1) C hE (ci := 9) (q := (RX7, TX7, 22)) (k_X7_refuse (x := 1) B hM1) gX7_match_X7_refuse rfl ⟨rfl, rfl⟩ (by decide +kernel) ⟨by decide, by decide⟩ rfl rfl hM1.mo rfl (Nat.le_of_ble_eq_true rfl) dX7_match_23 ⟨by decide, by decide⟩ (fun v μ' hp => ?_)
      obtain ⟨rfl, hM2, hG2⟩ := hp
      have hF2 : FrM K S.nA S.nQ μ _ := hF1.tr hG2
      refine aw_st (st' := [.int 0]) rfl ?_
      refine aw_iret C hQe ?_ (by omega) (by omega) dX7_match_26
      have hc : maC S x y = 1 := by simp [maC, b7, b15]
      rw [hc]
      exact ⟨⟨_, rfl, fun q => absurd q (by decide)⟩, ⟨(X.wth 0).wth 1, hM2, hR, rfl⟩, hF2⟩
  · refine aw_eqi (y := 0) (if_neg b7) ?_
    refine aw_if_eq C (tgt := 21) dX7_match_10 (by decide) (fun _ => ?_) (fun c9 => absurd (by decide) c9)
    refine aw_aload_n C dX7_match_21 rfl ?_
    refine aw_iconst C (v := 1) (by decide) dX7_match_22 ?_
    refine aw_callV (n := 1) C hE (ci := 9) (q := (RX7, TX7, 22)) (k_X7_refuse (x := 1) B hM1) gX7_match_X7_refuse rfl ⟨rfl, rfl⟩ (by decide +kernel) ⟨by decide, by decide⟩ rfl rfl hM1.mo rfl (Nat.le_of_ble_eq_true rfl) dX7_match_23 ⟨by decide, by decide⟩ (fun v μ' hp => ?_)
    obtain ⟨rfl, hM2, hG2⟩ := hp
    have hF2 : FrM K S.nA S.nQ μ _ := hF1.tr hG2
    refine aw_st (st' := [.int 0]) rfl ?_
    refine aw_iret C hQe ?_ (by omega) (by omega) dX7_match_26
    have hc : maC S x y = 1 := by simp [maC, b7]
    rw [hc]
    exact ⟨⟨_, rfl, fun q => absurd q (by decide)⟩, ⟨(X.wth 0).wth 1, hM2, hR, rfl⟩, hF2⟩
theorem puQ_s2 (S : SS) (i : Nat) : (puQ S i).wF (fu (puQ S i).F i (bbF (bbF ((puQ S i).F i) 1 12) 2 12)) = puQ S (i + 1) := (puQ_s S i).symm
theorem pull3 {S : SS} {i : Nat} : ((S.wA (fu S.A i (upd (S.A i) 9 0))).wA (fu (S.wA (fu S.A i (upd (S.A i) 9 0))).A i (upd ((S.wA (fu S.A i (upd (S.A i) 9 0))).A i) 10 0))).wA (fu ((S.wA (fu S.A i (upd (S.A i) 9 0))).wA (fu (S.wA (fu S.A i (upd (S.A i) 9 0))).A i (upd ((S.wA (fu S.A i (upd (S.A i) 9 0))).A i) 10 0))).A i (upd (((S.wA (fu S.A i (upd (S.A i) 9 0))).wA (fu (S.wA (fu S.A i (upd (S.A i) 9 0))).A i (upd ((S.wA (fu S.A i (upd (S.A i) 9 0))).A i) 10 0))).A i) 11 0)) = S.wA (fu S.A i (fgtA (S.A i))) := by
  have e1 : (S.wA (fu S.A i (upd (S.A i) 9 0))).A i = upd (S.A i) 9 0 := fu_s
  rw [e1, wA_wA]
  have e2 : ((S.wA (fu S.A i (upd (S.A i) 9 0))).wA (fu (S.wA (fu S.A i (upd (S.A i) 9 0))).A i (upd (upd (S.A i) 9 0) 10 0))).A i = upd (upd (S.A i) 9 0) 10 0 := fu_s
  rw [e2, wA_wA]
  congr 2
  funext k
  unfold upd fgtA
  by_cases h1 : k = 11
  · subst h1; rfl
  · by_cases h2 : k = 10
    · subst h2; rfl
    · by_cases h3 : k = 9
      · subst h3; rfl
      · rw [if_neg h1, if_neg h2, if_neg h3, if_neg h3, if_neg h2, if_neg h1]
set_option maxRecDepth 100000 in
set_option maxHeartbeats 4000000 in
theorem k_X7_pull (B : Base s0) {μ : mu} {K : Nat → Nat → Nat} {e0 : Nat} {S : SS} {X : XS} (hM : RM g K e0 S X μ) (hI : Iv S) {b : Nat} (hR : MR S X b)  : Ct l yX7_pull wsX7_pull (rmOf 4 3 12 180) s0 D (tyL g) [.ref (K 0 0)] μ 3 12 (fun v9 μ' => (∃ r : Int32, v9 = some (.int r) ∧ ((0 : Nat) = 0 → r = skF S)) ∧ PMx g K e0 S (puS S) (0 : Nat) b μ μ') := by
  refine Ct.of (cc := cX7_pull) (own := RX7) (maxL := 5) (ret := (some .int)) (by decide) rfl rfl (Nat.le_of_ble_eq_true rfl) ?_
  intro p e s m args below meth c Q C hE hnm hQe
  have in_RX7 : ∀ w ∈ u_ws RX7 TX7 22, w ∈ wsX7_pull := by decide +kernel
  have in_RX5 : ∀ w ∈ u_ws RX5 TX5 12, w ∈ wsX7_pull := by decide +kernel
  have in_RX6 : ∀ w ∈ u_ws RX6 TX6 5, w ∈ wsX7_pull := by decide +kernel
  have f39 : FL wsX7_pull RX7 39 9 "ArrowFieldModel" RX7 TX7 22 0 := ⟨in_RX7, rfl, by decide, by decide +kernel, Or.inl rfl⟩
  have f16 : FL wsX7_pull RX7 16 9 "ArrowFieldModel" RX7 TX7 22 2 := ⟨in_RX7, rfl, by decide, by decide +kernel, Or.inl rfl⟩
  have f10 : FL wsX7_pull RX7 10 9 "ArrowFieldModel" RX7 TX7 22 1 := ⟨in_RX7, rfl, by decide, by decide +kernel, Or.inl rfl⟩
  have f223 : FN s0 wsX7_pull RX7 223 7 "ArrowFieldModel$Archer" RX5 TX5 12 9 "ArrowFieldModel" := ⟨in_RX5, rfl, by decide, B.fnRX7_223, rfl⟩
  have f226 : FN s0 wsX7_pull RX7 226 7 "ArrowFieldModel$Archer" RX5 TX5 12 10 "ArrowFieldModel" := ⟨in_RX5, rfl, by decide, B.fnRX7_226, rfl⟩
  have f229 : FN s0 wsX7_pull RX7 229 7 "ArrowFieldModel$Archer" RX5 TX5 12 11 "ArrowFieldModel" := ⟨in_RX5, rfl, by decide, B.fnRX7_229, rfl⟩
  have f163 : FN s0 wsX7_pull RX7 163 8 "ArrowFieldModel$Quiver" RX6 TX6 5 2 "ArrowFieldModel" := ⟨in_RX6, rfl, by decide, B.fnRX7_163, rfl⟩
  refine aw_aload_n C dX7_pull_0 rfl ?_
  refine aw_iconst C (v := 0) (by decide) dX7_pull_1 ?_
  refine aw_putE C f39 ftX7 (ty := .int) (by decide +kernel) rfl rfl hM.mo (Nat.le_of_ble_eq_true rfl) (fs' := [.int 0, .ref (K 1 0), .ref (K 2 0), .int (S.c 4), .int (S.c 5), .int (S.c 6), .int (S.c 9), .int (S.c 10), .int (S.c 8), .int (S.c 13), .int (S.c 7), .int (S.c 11), .int (S.c 14), .ref (K 3 0), .ref (K 4 0), .ref (K 5 0), .double X.ne, .int (nI X.T), .int X.il, .double X.h, .double X.v, .long X.sm]) rfl dX7_pull_2 ?_
  refine aw_re (P := fun μ1 => RM g K e0 S (X.wth 0) μ1 ∧ FrM K S.nA S.nQ μ μ1) ⟨hM.setX (X.wth 0) rfl rfl rfl, (FrM.rf : FrM K S.nA S.nQ μ μ).mpw (m0 (by decide))⟩ (fun μ1 hq => ?_)
  obtain ⟨hM1, hF1⟩ := hq
  refine aw_aload_n C dX7_pull_5 rfl ?_
  refine aw_callV (n := 0) C hE (ci := 9) (q := (RX7, TX7, 22)) (k_X7_stuck B hM1 hI) gX7_pull_X7_stuck rfl ⟨rfl, rfl⟩ (by decide +kernel) ⟨by decide, by decide⟩ rfl rfl hM1.mo rfl (Nat.le_of_ble_eq_true rfl) dX7_pull_6 ⟨by decide, by decide⟩ (fun v μ' hp => ?_)
  obtain ⟨rfl, hM2, hG2⟩ := hp
  have hF2 : FrM K S.nA S.nQ μ _ := hF1.tr hG2
  refine aw_st (st' := [.int (skF S)]) rfl ?_
  refine aw_re (P := fun μ1 => RM g K e0 S (X.wth 0) μ1 ∧ FrM K S.nA S.nQ μ μ1) ⟨hM2, hF2⟩ (fun μ3 hq => ?_)
  obtain ⟨hM3, hF3⟩ := hq
  refine aw_istore_n C dX7_pull_9 (by decide) ?_
  refine aw_aload_n C dX7_pull_10 rfl ?_
  refine aw_get C f16 hM3.mo rfl dX7_pull_11 ?_
  refine aw_callV (n := 0) C hE (ci := 1) (q := (RJx4a65c, TJx4a65c, 3)) (k_Jx4a65c_iterator_32c93 B hM3.qL) gX7_pull_Jx4a65c_iterator_32c93 rfl ⟨rfl, rfl⟩ (by decide +kernel) ⟨by decide, by decide⟩ rfl rfl hM3.qL rfl (Nat.le_of_ble_eq_true rfl) dX7_pull_14 ⟨by decide, by decide⟩ (fun v μ' hp => ?_)
  obtain ⟨o, rfl, fo, hm9⟩ := hp
  replace hm9 := hm9.symm
  subst hm9
  refine aw_st (st' := [.ref o]) rfl ?_
  refine aw_re (P := fun μ1 => RM g K e0 S (X.wth 0) μ1 ∧ FrM K S.nA S.nQ μ3 μ1 ∧ μ1 o = some (.inr (0, [.int 0, .int (-1), .int (nI S.nQ), .ref (K 2 0)]))) ⟨hM3.nw fo, FrM.rf.nw fo, mp_s⟩ (fun μ4 hq => ?_)
  obtain ⟨hM4, hF4, hit⟩ := hq
  refine aw_astore_n C dX7_pull_17 (by decide) ?_
  refine aw_lv (lv' := [(0, .ref (K 0 0)), (1, .int (skF S)), (2, .ref o)]) ⟨rfl, rfl, rfl, trivial⟩ ?_
  have loop18 : ∀ (n : Nat) (i : Nat) (la : Int32) (μk : mu), S.nQ - i = n → i ≤ S.nQ → RM g K e0 (puQ S i) (X.wth 0) μk → FrM K S.nA S.nQ μ3 μk → μk o = some (eIt (nI i) la (nI S.nQ) (K 2 0)) → Aw p l e (rmOf 4 3 12 180) s m args below meth c Q s0.heap.size D 5 μk (0 + 1 + 1) (0 + 4 + 4) 18 [(0, .ref (K 0 0)), (1, .int (skF S)), (2, .ref o)] [] := by
    intro n
    induction n using Nat.strongRecOn with
    | _ n ih =>
      intro i la μk hn hk hMl hFl hit
      refine aw_aload_n C dX7_pull_18 rfl ?_
      refine aw_callF (n := 0) C hE (ci := 0) (q := (RJx35411, TJx35411, 4)) (k_Jx35411_hasNext_aae02 B hMl.qL hit) gX7_pull_Jx35411_hasNext_aae02_f111Jx35411 (va_Fw.moved (by decide) hE.1.alike B.fhasNext) rfl ⟨rfl, rfl⟩ (by decide +kernel) ⟨by decide, by decide⟩ rfl rfl hit rfl (Nat.le_of_ble_eq_true rfl) dX7_pull_19 ⟨by decide, by decide⟩ (fun v μ' hp => ?_)
      obtain ⟨rfl, hm9⟩ := hp
      replace hm9 := hm9.symm
      subst hm9
      refine aw_st (st' := [.int (if nI i = nI (puQ S i).nQ then 0 else 1)]) rfl ?_
      by_cases hs : nI i = nI (puQ S i).nQ
      · refine aw_eqi (y := 0) (if_pos hs) ?_
        refine aw_if_eq C (tgt := 75) dX7_pull_24 (by decide) (fun _ => ?_) (fun c9 => absurd (by decide) c9)
        have e8 : i = S.nQ := (nI_eq (by have := hI.Q6; omega) (by have := hI.Q6; omega)).mp hs
        have hFo : FrM K S.nA S.nQ μ μk := (hF3.tr hFl)
        refine aw_aload_n C dX7_pull_75 rfl ?_
        refine aw_get C f10 hMl.mo rfl dX7_pull_76 ?_
        refine aw_callV (n := 0) C hE (ci := 1) (q := (RJx4a65c, TJx4a65c, 3)) (k_Jx4a65c_iterator_32c93 B hMl.aL) gX7_pull_Jx4a65c_iterator_32c93 rfl ⟨rfl, rfl⟩ (by decide +kernel) ⟨by decide, by decide⟩ rfl rfl hMl.aL rfl (Nat.le_of_ble_eq_true rfl) dX7_pull_79 ⟨by decide, by decide⟩ (fun v μ' hp => ?_)
        obtain ⟨o2, rfl, fo2, hm9⟩ := hp
        replace hm9 := hm9.symm
        subst hm9
        refine aw_st (st' := [.ref o2]) rfl ?_
        refine aw_re (P := fun μ1 => RM g K e0 (puQ S i) (X.wth 0) μ1 ∧ FrM K S.nA S.nQ μk μ1 ∧ μ1 o2 = some (.inr (0, [.int 0, .int (-1), .int (nI (puQ S i).nA), .ref (K 1 0)]))) ⟨hMl.nw fo2, FrM.rf.nw fo2, mp_s⟩ (fun μ5 hq => ?_)
        obtain ⟨hM5, hF5, hit⟩ := hq
        refine aw_astore_n C dX7_pull_82 (by decide) ?_
        refine aw_lv (lv' := [(0, .ref (K 0 0)), (1, .int (skF S)), (2, .ref o2)]) ⟨rfl, rfl, rfl, trivial⟩ ?_
        have loop83 : ∀ (n : Nat) (i2 : Nat) (la2 : Int32) (μm : mu), S.nA - i2 = n → i2 ≤ S.nA → RM g K e0 (puA (puQ S S.nQ) i2) (X.wth 0) μm → FrM K S.nA S.nQ μk μm → μm o2 = some (eIt (nI i2) la2 (nI S.nA) (K 1 0)) → Aw p l e (rmOf 4 3 12 180) s m args below meth c Q s0.heap.size D 5 μm (0 + 1 + 1 + 1) (0 + 4 + 4 + 4) 83 [(0, .ref (K 0 0)), (1, .int (skF S)), (2, .ref o2)] [] := by
          intro n
          induction n using Nat.strongRecOn with
          | _ n ih =>
            intro i2 la2 μm hn hk hMl hFl hit
            refine aw_aload_n C dX7_pull_83 rfl ?_
            refine aw_callF (n := 0) C hE (ci := 0) (q := (RJx35411, TJx35411, 4)) (k_Jx35411_hasNext_aae02 B hMl.aL hit) gX7_pull_Jx35411_hasNext_aae02_f111Jx35411 (va_Fw.moved (by decide) hE.1.alike B.fhasNext) rfl ⟨rfl, rfl⟩ (by decide +kernel) ⟨by decide, by decide⟩ rfl rfl hit rfl (Nat.le_of_ble_eq_true rfl) dX7_pull_84 ⟨by decide, by decide⟩ (fun v μ' hp => ?_)
            obtain ⟨rfl, hm9⟩ := hp
            replace hm9 := hm9.symm
            subst hm9
            refine aw_st (st' := [.int (if nI i2 = nI (puA (puQ S S.nQ) i2).nA then 0 else 1)]) rfl ?_
            by_cases hs2 : nI i2 = nI (puA (puQ S S.nQ) i2).nA
            · refine aw_eqi (y := 0) (if_pos hs2) ?_
              refine aw_if_eq C (tgt := 120) dX7_pull_89 (by decide) (fun _ => ?_) (fun c9 => absurd (by decide) c9)
              refine aw_iload_n C dX7_pull_120 rfl ?_
              refine aw_iret C hQe ?_ (by omega) (by omega) dX7_pull_121
              have e9 : i2 = S.nA := (nI_eq (by have := hI.A6; omega) (by have := hI.A6; omega)).mp hs2
              exact ⟨⟨_, rfl, fun _ => rfl⟩, ⟨X.wth 0, by unfold puS; rw [← e9]; exact hMl, hR, rfl⟩, hFo.tr hFl⟩
            · refine aw_eqi (y := 1) (if_neg hs2) ?_
              refine aw_if_eq C (tgt := 120) dX7_pull_89 (by decide) (fun c9 => absurd c9 (by decide)) (fun _ => ?_)
              refine aw_aload_n C dX7_pull_92 rfl ?_
              have hi : i2 < S.nA := by rcases Nat.lt_or_eq_of_le hk with q | q; exact q; exact absurd (congrArg nI q) hs2
              refine aw_callF (n := 0) C hE (ci := 0) (q := (RJx35411, TJx35411, 4)) (k_nextA B hMl hit hi hI.A6) gX7_pull_Jx35411_next_0502b_f116Jx35411 (va_Fw.moved (by decide) hE.1.alike B.fnext) rfl ⟨rfl, rfl⟩ (by decide +kernel) ⟨by decide, by decide⟩ rfl rfl hit rfl (Nat.le_of_ble_eq_true rfl) dX7_pull_93 ⟨by decide, by decide⟩ (fun v μ' hp => ?_)
              obtain ⟨rfl, hm9⟩ := hp
              replace hm9 := hm9.symm
              subst hm9
              refine aw_st (st' := [.ref (K 8 i2)]) rfl ?_
              refine aw_re (P := fun μ1 => RM g K e0 (puA (puQ S S.nQ) i2) (X.wth 0) μ1 ∧ FrM K S.nA S.nQ μk μ1 ∧ μ1 o2 = some (.inr (0, [.int (nI (i2 + 1)), .int (nI i2), .int (nI (puA (puQ S S.nQ) i2).nA), .ref (K 1 0)]))) ⟨hMl.it hit _, hFl.nwo fo2, mp_s⟩ (fun μ6 hq => ?_)
              obtain ⟨hM6, hF6, hit2⟩ := hq
              refine aw_cast C (ci := 7) (by decide +kernel) (va_Nw.warmC hE.1 B.caXa) rfl (hM6.xa hi) dX7_pull_98 ?_
              refine aw_astore_n C dX7_pull_101 (by decide) ?_
              refine aw_aload_n C dX7_pull_102 rfl ?_
              refine aw_iconst C (v := 0) (by decide) dX7_pull_103 ?_
              refine aw_putNE C hE f223 ftX5 (ty := .int) (by decide +kernel) rfl rfl (hM6.xa hi) (Nat.le_of_ble_eq_true rfl) (fs' := [.int ((puA (puQ S S.nQ) i2).A i2 0), .int ((puA (puQ S S.nQ) i2).A i2 1), .int ((puA (puQ S S.nQ) i2).A i2 2), .int ((puA (puQ S S.nQ) i2).A i2 3), .float ((puA (puQ S S.nQ) i2).cr i2), .int ((puA (puQ S S.nQ) i2).A i2 5), .int ((puA (puQ S S.nQ) i2).A i2 6), .int ((puA (puQ S S.nQ) i2).A i2 7), .int ((puA (puQ S S.nQ) i2).A i2 8), .int 0, .int ((puA (puQ S S.nQ) i2).A i2 10), .int ((puA (puQ S S.nQ) i2).A i2 11)]) rfl dX7_pull_104 ?_
              refine aw_re (P := fun μ1 => RM g K e0 ((puA (puQ S S.nQ) i2).wA (fu (puA (puQ S S.nQ) i2).A i2 (upd ((puA (puQ S S.nQ) i2).A i2) 9 0))) (X.wth 0) μ1 ∧ FrM K S.nA S.nQ μk μ1 ∧ μ1 o2 = some (.inr (0, [.int (nI (i2 + 1)), .int (nI i2), .int (nI (puA (puQ S S.nQ) i2).nA), .ref (K 1 0)]))) ⟨hM6.setXA hi (upd ((puA (puQ S S.nQ) i2).A i2) 9 0), hF6.mpw (m8 hi), mp_k hit2 (tag_ne hit2 (hM6.xa hi) rfl)⟩ (fun μ7 hq => ?_)
              obtain ⟨hM7, hF7, hit2⟩ := hq
              refine aw_aload_n C dX7_pull_107 rfl ?_
              refine aw_iconst C (v := 0) (by decide) dX7_pull_108 ?_
              refine aw_putNE C hE f226 ftX5 (ty := .int) (by decide +kernel) rfl rfl (hM7.xa hi) (Nat.le_of_ble_eq_true rfl) (fs' := [.int (((puA (puQ S S.nQ) i2).wA (fu (puA (puQ S S.nQ) i2).A i2 (upd ((puA (puQ S S.nQ) i2).A i2) 9 0))).A i2 0), .int (((puA (puQ S S.nQ) i2).wA (fu (puA (puQ S S.nQ) i2).A i2 (upd ((puA (puQ S S.nQ) i2).A i2) 9 0))).A i2 1), .int (((puA (puQ S S.nQ) i2).wA (fu (puA (puQ S S.nQ) i2).A i2 (upd ((puA (puQ S S.nQ) i2).A i2) 9 0))).A i2 2), .int (((puA (puQ S S.nQ) i2).wA (fu (puA (puQ S S.nQ) i2).A i2 (upd ((puA (puQ S S.nQ) i2).A i2) 9 0))).A i2 3), .float (((puA (puQ S S.nQ) i2).wA (fu (puA (puQ S S.nQ) i2).A i2 (upd ((puA (puQ S S.nQ) i2).A i2) 9 0))).cr i2), .int (((puA (puQ S S.nQ) i2).wA (fu (puA (puQ S S.nQ) i2).A i2 (upd ((puA (puQ S S.nQ) i2).A i2) 9 0))).A i2 5), .int (((puA (puQ S S.nQ) i2).wA (fu (puA (puQ S S.nQ) i2).A i2 (upd ((puA (puQ S S.nQ) i2).A i2) 9 0))).A i2 6), .int (((puA (puQ S S.nQ) i2).wA (fu (puA (puQ S S.nQ) i2).A i2 (upd ((puA (puQ S S.nQ) i2).A i2) 9 0))).A i2 7), .int (((puA (puQ S S.nQ) i2).wA (fu (puA (puQ S S.nQ) i2).A i2 (upd ((puA (puQ S S.nQ) i2).A i2) 9 0))).A i2 8), .int (((puA (puQ S S.nQ) i2).wA (fu (puA (puQ S S.nQ) i2).A i2 (upd ((puA (puQ S S.nQ) i2).A i2) 9 0))).A i2 9), .int 0, .int (((puA (puQ S S.nQ) i2).wA (fu (puA (puQ S S.nQ) i2).A i2 (upd ((puA (puQ S S.nQ) i2).A i2) 9 0))).A i2 11)]) rfl dX7_pull_109 ?_
              refine aw_re (P := fun μ1 => RM g K e0 (((puA (puQ S S.nQ) i2).wA (fu (puA (puQ S S.nQ) i2).A i2 (upd ((puA (puQ S S.nQ) i2).A i2) 9 0))).wA (fu ((puA (puQ S S.nQ) i2).wA (fu (puA (puQ S S.nQ) i2).A i2 (upd ((puA (puQ S S.nQ) i2).A i2) 9 0))).A i2 (upd (((puA (puQ S S.nQ) i2).wA (fu (puA (puQ S S.nQ) i2).A i2 (upd ((puA (puQ S S.nQ) i2).A i2) 9 0))).A i2) 10 0))) (X.wth 0) μ1 ∧ FrM K S.nA S.nQ μk μ1 ∧ μ1 o2 = some (.inr (0, [.int (nI (i2 + 1)), .int (nI i2), .int (nI (puA (puQ S S.nQ) i2).nA), .ref (K 1 0)]))) ⟨hM7.setXA hi (upd (((puA (puQ S S.nQ) i2).wA (fu (puA (puQ S S.nQ) i2).A i2 (upd ((puA (puQ S S.nQ) i2).A i2) 9 0))).A i2) 10 0), hF7.mpw (m8 hi), mp_k hit2 (tag_ne hit2 (hM7.xa hi) rfl)⟩ (fun μ8 hq => ?_)
              obtain ⟨hM8, hF8, hit2⟩ := hq
              refine aw_aload_n C dX7_pull_112 rfl ?_
              refine aw_iconst C (v := 0) (by decide) dX7_pull_113 ?_
              refine aw_putNE C hE f229 ftX5 (ty := .int) (by decide +kernel) rfl rfl (hM8.xa hi) (Nat.le_of_ble_eq_true rfl) (fs' := [.int ((((puA (puQ S S.nQ) i2).wA (fu (puA (puQ S S.nQ) i2).A i2 (upd ((puA (puQ S S.nQ) i2).A i2) 9 0))).wA (fu ((puA (puQ S S.nQ) i2).wA (fu (puA (puQ S S.nQ) i2).A i2 (upd ((puA (puQ S S.nQ) i2).A i2) 9 0))).A i2 (upd (((puA (puQ S S.nQ) i2).wA (fu (puA (puQ S S.nQ) i2).A i2 (upd ((puA (puQ S S.nQ) i2).A i2) 9 0))).A i2) 10 0))).A i2 0), .int ((((puA (puQ S S.nQ) i2).wA (fu (puA (puQ S S.nQ) i2).A i2 (upd ((puA (puQ S S.nQ) i2).A i2) 9 0))).wA (fu ((puA (puQ S S.nQ) i2).wA (fu (puA (puQ S S.nQ) i2).A i2 (upd ((puA (puQ S S.nQ) i2).A i2) 9 0))).A i2 (upd (((puA (puQ S S.nQ) i2).wA (fu (puA (puQ S S.nQ) i2).A i2 (upd ((puA (puQ S S.nQ) i2).A i2) 9 0))).A i2) 10 0))).A i2 1), .int ((((puA (puQ S S.nQ) i2).wA (fu (puA (puQ S S.nQ) i2).A i2 (upd ((puA (puQ S S.nQ) i2).A i2) 9 0))).wA (fu ((puA (puQ S S.nQ) i2).wA (fu (puA (puQ S S.nQ) i2).A i2 (upd ((puA (puQ S S.nQ) i2).A i2) 9 0))).A i2 (upd (((puA (puQ S S.nQ) i2).wA (fu (puA (puQ S S.nQ) i2).A i2 (upd ((puA (puQ S S.nQ) i2).A i2) 9 0))).A i2) 10 0))).A i2 2), .int ((((puA (puQ S S.nQ) i2).wA (fu (puA (puQ S S.nQ) i2).A i2 (upd ((puA (puQ S S.nQ) i2).A i2) 9 0))).wA (fu ((puA (puQ S S.nQ) i2).wA (fu (puA (puQ S S.nQ) i2).A i2 (upd ((puA (puQ S S.nQ) i2).A i2) 9 0))).A i2 (upd (((puA (puQ S S.nQ) i2).wA (fu (puA (puQ S S.nQ) i2).A i2 (upd ((puA (puQ S S.nQ) i2).A i2) 9 0))).A i2) 10 0))).A i2 3), .float ((((puA (puQ S S.nQ) i2).wA (fu (puA (puQ S S.nQ) i2).A i2 (upd ((puA (puQ S S.nQ) i2).A i2) 9 0))).wA (fu ((puA (puQ S S.nQ) i2).wA (fu (puA (puQ S S.nQ) i2).A i2 (upd ((puA (puQ S S.nQ) i2).A i2) 9 0))).A i2 (upd (((puA (puQ S S.nQ) i2).wA (fu (puA (puQ S S.nQ) i2).A i2 (upd ((puA (puQ S S.nQ) i2).A i2) 9 0))).A i2) 10 0))).cr i2), .int ((((puA (puQ S S.nQ) i2).wA (fu (puA (puQ S S.nQ) i2).A i2 (upd ((puA (puQ S S.nQ) i2).A i2) 9 0))).wA (fu ((puA (puQ S S.nQ) i2).wA (fu (puA (puQ S S.nQ) i2).A i2 (upd ((puA (puQ S S.nQ) i2).A i2) 9 0))).A i2 (upd (((puA (puQ S S.nQ) i2).wA (fu (puA (puQ S S.nQ) i2).A i2 (upd ((puA (puQ S S.nQ) i2).A i2) 9 0))).A i2) 10 0))).A i2 5), .int ((((puA (puQ S S.nQ) i2).wA (fu (puA (puQ S S.nQ) i2).A i2 (upd ((puA (puQ S S.nQ) i2).A i2) 9 0))).wA (fu ((puA (puQ S S.nQ) i2).wA (fu (puA (puQ S S.nQ) i2).A i2 (upd ((puA (puQ S S.nQ) i2).A i2) 9 0))).A i2 (upd (((puA (puQ S S.nQ) i2).wA (fu (puA (puQ S S.nQ) i2).A i2 (upd ((puA (puQ S S.nQ) i2).A i2) 9 0))).A i2) 10 0))).A i2 6), .int ((((puA (puQ S S.nQ) i2).wA (fu (puA (puQ S S.nQ) i2).A i2 (upd ((puA (puQ S S.nQ) i2).A i2) 9 0))).wA (fu ((puA (puQ S S.nQ) i2).wA (fu (puA (puQ S S.nQ) i2).A i2 (upd ((puA (puQ S S.nQ) i2).A i2) 9 0))).A i2 (upd (((puA (puQ S S.nQ) i2).wA (fu (puA (puQ S S.nQ) i2).A i2 (upd ((puA (puQ S S.nQ) i2).A i2) 9 0))).A i2) 10 0))).A i2 7), .int ((((puA (puQ S S.nQ) i2).wA (fu (puA (puQ S S.nQ) i2).A i2 (upd ((puA (puQ S S.nQ) i2).A i2) 9 0))).wA (fu ((puA (puQ S S.nQ) i2).wA (fu (puA (puQ S S.nQ) i2).A i2 (upd ((puA (puQ S S.nQ) i2).A i2) 9 0))).A i2 (upd (((puA (puQ S S.nQ) i2).wA (fu (puA (puQ S S.nQ) i2).A i2 (upd ((puA (puQ S S.nQ) i2).A i2) 9 0))).A i2) 10 0))).A i2 8), .int ((((puA (puQ S S.nQ) i2).wA (fu (puA (puQ S S.nQ) i2).A i2 (upd ((puA (puQ S S.nQ) i2).A i2) 9 0))).wA (fu ((puA (puQ S S.nQ) i2).wA (fu (puA (puQ S S.nQ) i2).A i2 (upd ((puA (puQ S S.nQ) i2).A i2) 9 0))).A i2 (upd (((puA (puQ S S.nQ) i2).wA (fu (puA (puQ S S.nQ) i2).A i2 (upd ((puA (puQ S S.nQ) i2).A i2) 9 0))).A i2) 10 0))).A i2 9), .int ((((puA (puQ S S.nQ) i2).wA (fu (puA (puQ S S.nQ) i2).A i2 (upd ((puA (puQ S S.nQ) i2).A i2) 9 0))).wA (fu ((puA (puQ S S.nQ) i2).wA (fu (puA (puQ S S.nQ) i2).A i2 (upd ((puA (puQ S S.nQ) i2).A i2) 9 0))).A i2 (upd (((puA (puQ S S.nQ) i2).wA (fu (puA (puQ S S.nQ) i2).A i2 (upd ((puA (puQ S S.nQ) i2).A i2) 9 0))).A i2) 10 0))).A i2 10), .int 0]) rfl dX7_pull_114 ?_
              refine aw_re (P := fun μ1 => RM g K e0 ((((puA (puQ S S.nQ) i2).wA (fu (puA (puQ S S.nQ) i2).A i2 (upd ((puA (puQ S S.nQ) i2).A i2) 9 0))).wA (fu ((puA (puQ S S.nQ) i2).wA (fu (puA (puQ S S.nQ) i2).A i2 (upd ((puA (puQ S S.nQ) i2).A i2) 9 0))).A i2 (upd (((puA (puQ S S.nQ) i2).wA (fu (puA (puQ S S.nQ) i2).A i2 (upd ((puA (puQ S S.nQ) i2).A i2) 9 0))).A i2) 10 0))).wA (fu (((puA (puQ S S.nQ) i2).wA (fu (puA (puQ S S.nQ) i2).A i2 (upd ((puA (puQ S S.nQ) i2).A i2) 9 0))).wA (fu ((puA (puQ S S.nQ) i2).wA (fu (puA (puQ S S.nQ) i2).A i2 (upd ((puA (puQ S S.nQ) i2).A i2) 9 0))).A i2 (upd (((puA (puQ S S.nQ) i2).wA (fu (puA (puQ S S.nQ) i2).A i2 (upd ((puA (puQ S S.nQ) i2).A i2) 9 0))).A i2) 10 0))).A i2 (upd ((((puA (puQ S S.nQ) i2).wA (fu (puA (puQ S S.nQ) i2).A i2 (upd ((puA (puQ S S.nQ) i2).A i2) 9 0))).wA (fu ((puA (puQ S S.nQ) i2).wA (fu (puA (puQ S S.nQ) i2).A i2 (upd ((puA (puQ S S.nQ) i2).A i2) 9 0))).A i2 (upd (((puA (puQ S S.nQ) i2).wA (fu (puA (puQ S S.nQ) i2).A i2 (upd ((puA (puQ S S.nQ) i2).A i2) 9 0))).A i2) 10 0))).A i2) 11 0))) (X.wth 0) μ1 ∧ FrM K S.nA S.nQ μk μ1 ∧ μ1 o2 = some (.inr (0, [.int (nI (i2 + 1)), .int (nI i2), .int (nI (puA (puQ S S.nQ) i2).nA), .ref (K 1 0)]))) ⟨hM8.setXA hi (upd ((((puA (puQ S S.nQ) i2).wA (fu (puA (puQ S S.nQ) i2).A i2 (upd ((puA (puQ S S.nQ) i2).A i2) 9 0))).wA (fu ((puA (puQ S S.nQ) i2).wA (fu (puA (puQ S S.nQ) i2).A i2 (upd ((puA (puQ S S.nQ) i2).A i2) 9 0))).A i2 (upd (((puA (puQ S S.nQ) i2).wA (fu (puA (puQ S S.nQ) i2).A i2 (upd ((puA (puQ S S.nQ) i2).A i2) 9 0))).A i2) 10 0))).A i2) 11 0), hF8.mpw (m8 hi), mp_k hit2 (tag_ne hit2 (hM8.xa hi) rfl)⟩ (fun μ9 hq => ?_)
              obtain ⟨hM9, hF9, hit2⟩ := hq
              refine aw_goto C (tgt := 83) dX7_pull_117 (by decide) ?_
              have h9 := hM9
              rw [pull3] at h9
              refine aw_lv (lv' := [(0, .ref (K 0 0)), (1, .int (skF S)), (2, .ref o2)]) ⟨rfl, rfl, rfl, trivial⟩ ?_
              exact ih _ (by omega) (i2 + 1) (nI i2) _ rfl hi (by rw [puA_s]; exact h9) hF9 hit2
        exact loop83 _ 0 (-1) _ rfl (Nat.zero_le _) (by rw [puA_0, ← e8]; exact hM5) hF5 hit
      · refine aw_eqi (y := 1) (if_neg hs) ?_
        refine aw_if_eq C (tgt := 75) dX7_pull_24 (by decide) (fun c9 => absurd c9 (by decide)) (fun _ => ?_)
        refine aw_aload_n C dX7_pull_27 rfl ?_
        have hi : i < S.nQ := by rcases Nat.lt_or_eq_of_le hk with q | q; exact q; exact absurd (congrArg nI q) hs
        refine aw_callF (n := 0) C hE (ci := 0) (q := (RJx35411, TJx35411, 4)) (k_nextQ B hMl hit hi hI.Q6) gX7_pull_Jx35411_next_0502b_f116Jx35411 (va_Fw.moved (by decide) hE.1.alike B.fnext) rfl ⟨rfl, rfl⟩ (by decide +kernel) ⟨by decide, by decide⟩ rfl rfl hit rfl (Nat.le_of_ble_eq_true rfl) dX7_pull_28 ⟨by decide, by decide⟩ (fun v μ' hp => ?_)
        obtain ⟨rfl, hm9⟩ := hp
        replace hm9 := hm9.symm
        subst hm9
        refine aw_st (st' := [.ref (K 9 i)]) rfl ?_
        refine aw_re (P := fun μ1 => RM g K e0 (puQ S i) (X.wth 0) μ1 ∧ FrM K S.nA S.nQ μ3 μ1 ∧ μ1 o = some (.inr (0, [.int (nI (i + 1)), .int (nI i), .int (nI (puQ S i).nQ), .ref (K 2 0)]))) ⟨hMl.it hit _, hFl.nwo fo, mp_s⟩ (fun μ5 hq => ?_)
        obtain ⟨hM5, hF5, hit2⟩ := hq
        refine aw_cast C (ci := 8) (by decide +kernel) (va_Nw.warmC hE.1 B.caXq) rfl (hM5.xq hi) dX7_pull_33 ?_
        refine aw_astore_n C dX7_pull_36 (by decide) ?_
        refine aw_iconst C (v := 0) (by decide) dX7_pull_37 ?_
        refine aw_istore C dX7_pull_38 (by decide) ?_
        refine aw_lv (lv' := [(0, .ref (K 0 0)), (1, .int (skF S)), (2, .ref o), (3, .ref (K 9 i)), (4, .int 0)]) ⟨rfl, rfl, rfl, rfl, rfl, trivial⟩ ?_
        have loop40 : ∀ (n2 : Nat) (k : Nat) (xk : Int32) (μj : mu), 12 - k = n2 → xk = nI k → k ≤ 12 → RM g K e0 ((puQ S i).wF (fu (puQ S i).F i (plF ((puQ S i).F i) k))) (X.wth 0) μj → FrM K S.nA S.nQ μ3 μj → μj o = some (eIt (nI (i + 1)) (nI i) (nI S.nQ) (K 2 0)) → Aw p l e (rmOf 4 3 12 180) s m args below meth c Q s0.heap.size D 5 μj (0 + 1 + 1) (0 + 4 + 4) 40 [(0, .ref (K 0 0)), (1, .int (skF S)), (2, .ref o), (3, .ref (K 9 i)), (4, .int xk)] [] := by
          intro n2
          induction n2 using Nat.strongRecOn with
          | _ n2 ih2 =>
            intro k xk μj hn2 hx hk2 hMj hFj hij
            refine aw_iload C dX7_pull_40 rfl ?_
            refine aw_bipush C (v := 12) (by decide) dX7_pull_42 ?_
            refine aw_icmp_ge C (tgt := 72) dX7_pull_44 (by decide) (fun c_44 => ?_) (fun c_44 => ?_)
            · have e8 : k = 12 := by have := ge_of (n := 12) hx (by decide) (by omega) c_44; omega
              subst e8
              have h9 := hMj
              rw [plF_bb (fun z => by rw [puQ_F (Nat.le_refl i)]; exact (hI.2.2.2.2.2.2.2.1 i z).2.2)] at h9
              refine aw_goto C (tgt := 18) dX7_pull_72 (by decide) ?_
              refine aw_lv (lv' := [(0, .ref (K 0 0)), (1, .int (skF S)), (2, .ref o)]) ⟨rfl, rfl, rfl, trivial⟩ ?_
              exact ih _ (by omega) (i + 1) (nI i) _ rfl hi (by rw [← puQ_s2]; exact h9) hFj hij
            · have hk3 : k < 12 := lt_of (n := 12) hx (by decide) (by omega) c_44
              subst hx
              refine aw_aload_n C dX7_pull_47 rfl ?_
              refine aw_getN C hE f163 (hMj.xq hi) rfl dX7_pull_48 ?_
              refine aw_iload C dX7_pull_51 rfl ?_
              refine aw_ialdE C (hMj.wh hi) rfl ⟨hk3, by decide⟩ (by show fu (puQ S i).F i (plF ((puQ S i).F i) k) i k = (puQ S i).F i k; rw [fu_s, plF_at]) dX7_pull_53 ?_
              refine aw_iconst C (v := 3) (by decide) dX7_pull_54 ?_
              refine aw_icmp_eq C (tgt := 66) dX7_pull_55 (by decide) (fun c_55 => ?_) (fun c_55 => ?_)
              · refine aw_iinc C dX7_pull_66 rfl (by decide) ?_
                refine aw_goto C (tgt := 40) dX7_pull_69 (by decide) ?_
                refine aw_lv (lv' := [(0, .ref (K 0 0)), (1, .int (skF S)), (2, .ref o), (3, .ref (K 9 i)), (4, .int (nI k + Int32.ofInt 1))]) ⟨rfl, rfl, rfl, rfl, rfl, trivial⟩ ?_
                exact ih2 _ (by omega) (k + 1) (nI k + Int32.ofInt 1) _ rfl (nI_inc k) (by omega) (by rw [← plF_n c_55]; exact hMj) hFj hij
              · refine aw_aload_n C dX7_pull_58 rfl ?_
                refine aw_getN C hE f163 (hMj.xq hi) rfl dX7_pull_59 ?_
                refine aw_iload C dX7_pull_62 rfl ?_
                refine aw_iconst C (v := 0) (by decide) dX7_pull_64 ?_
                refine aw_iastE C (hMj.wh hi) rfl ⟨hk3, by decide⟩ dX7_pull_65 ?_
                refine aw_re (P := fun μ1 => RM g K e0 (((puQ S i).wF (fu (puQ S i).F i (plF ((puQ S i).F i) k))).wF (fu ((puQ S i).wF (fu (puQ S i).F i (plF ((puQ S i).F i) k))).F i (upd (((puQ S i).wF (fu (puQ S i).F i (plF ((puQ S i).F i) k))).F i) k 0))) (X.wth 0) μ1 ∧ FrM K S.nA S.nQ μ3 μ1 ∧ μ1 o = some (.inr (0, [.int (nI (i + 1)), .int (nI i), .int (nI S.nQ), .ref (K 2 0)]))) ⟨hMj.setWh hi (upd (((puQ S i).wF (fu (puQ S i).F i (plF ((puQ S i).F i) k))).F i) k 0), hFj.mpw (m9 (by decide) hi), mp_k hij (tag_ne hij (hMj.wh hi) rfl)⟩ (fun μ6 hq => ?_)
                obtain ⟨hM6, hF6, hij⟩ := hq
                refine aw_iinc C dX7_pull_66 rfl (by decide) ?_
                refine aw_goto C (tgt := 40) dX7_pull_69 (by decide) ?_
                have h9 := hM6
                rw [wF_wF, show upd (((puQ S i).wF (fu (puQ S i).F i (plF ((puQ S i).F i) k))).F i) k 0 = plF ((puQ S i).F i) (k + 1) by rw [show ((puQ S i).wF (fu (puQ S i).F i (plF ((puQ S i).F i) k))).F i = plF ((puQ S i).F i) k from fu_s]; exact plF_y c_55] at h9
                refine aw_lv (lv' := [(0, .ref (K 0 0)), (1, .int (skF S)), (2, .ref o), (3, .ref (K 9 i)), (4, .int (nI k + Int32.ofInt 1))]) ⟨rfl, rfl, rfl, rfl, rfl, trivial⟩ ?_
                exact ih2 _ (by omega) (k + 1) (nI k + Int32.ofInt 1) _ rfl (nI_inc k) (by omega) h9 hF6 hij
        exact loop40 _ 0 0 _ rfl rfl (by decide) (by rw [plF_0, wF_id]; exact hM5) hF5 hit2
  exact loop18 _ 0 (-1) _ rfl (Nat.zero_le _) (by rw [puQ_0]; exact hM4) hF4 hit
end KM3
