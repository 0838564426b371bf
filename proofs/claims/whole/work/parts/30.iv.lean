/-! ===== what holds between calls holds behind every call ===== -/
section IVS
variable {S : SS}
abbrev OnOk (t : Nat → Int32) (nA : Nat) : Prop := t 0 = 0 ∨ (t 0 = 1 ∧ ∃ k i j, k < 4 ∧ t 7 = nI k ∧ i < nA ∧ t 1 = nI i ∧ j < nA ∧ t 2 = nI j ∧ i ≠ j ∧ (t 8 = 0 ∨ (t 8 = 1 ∧ k < 2)))
theorem Iv.wc_ok (h : Iv S) {c' : Nat → Int32} (h2 : c' 2 = S.c 2) (h3 : c' 3 = S.c 3) (h4 : 10 ≤ (c' 4).toInt ∧ (c' 4).toInt ≤ 90) (h7 : c' 7 = 0 ∨ c' 7 = 1) : Iv (S.wc c') :=
  ⟨⟨h2.trans h.1.1, h.1.2.1, h3.trans h.1.2.2.1, h.1.2.2.2⟩, h4, h7, h.2.2.2⟩
theorem Iv.wA_ok (h : Iv S) {j : Nat} (hj : j < S.nA) {x : Nat → Int32} (h0 : x 0 = S.A j 0) (h5 : x 5 = -1 ∨ ∃ n, n < S.nQ ∧ x 5 = nI n) : Iv (S.wA (fu S.A j x)) := by
  refine ⟨h.1, h.2.1, h.2.2.1, fun i hi => ?_, fun i hi => ?_, h.2.2.2.2.2⟩
  · show (20 ≤ (fu S.A j x i 0).toInt ∧ (fu S.A j x i 0).toInt ≤ 60) ∧ CrOk (S.cr i) ∧ (fu S.A j x i 5 = -1 ∨ ∃ n, n < S.nQ ∧ fu S.A j x i 5 = nI n)
    by_cases e : i = j
    · subst e
      rw [fu_s, h0]
      exact ⟨(h.2.2.2.1 i hj).1, (h.2.2.2.1 i hj).2.1, h5⟩
    · rw [fu_n e]
      exact h.2.2.2.1 i hi
  · show fu S.A j x i = _ ∧ _
    rw [fu_n (fun e => absurd (show S.nA ≤ i from hi) (by omega))]
    exact h.2.2.2.2.1 i hi
theorem Iv.wcr_ok (h : Iv S) {j : Nat} (hj : j < S.nA) {y : UInt32} (hy : CrOk y) : Iv (S.wcr (fu S.cr j y)) := by
  refine ⟨h.1, h.2.1, h.2.2.1, fun i hi => ⟨(h.2.2.2.1 i hi).1, ?_, (h.2.2.2.1 i hi).2.2⟩, fun i hi => ⟨(h.2.2.2.2.1 i hi).1, ?_⟩, h.2.2.2.2.2⟩
  · show CrOk (fu S.cr j y i)
    by_cases e : i = j
    · subst e; rw [fu_s]; exact hy
    · rw [fu_n e]; exact (h.2.2.2.1 i hi).2.1
  · show fu S.cr j y i = 0
    rw [fu_n (fun e => absurd (show S.nA ≤ i from hi) (by omega))]
    exact (h.2.2.2.2.1 i hi).2
theorem Iv.wF_ok (h : Iv S) {n : Nat} (hn : n < S.nQ) {f : Nat → Int32} (hf : ∀ k, f k = 0 ∨ f k = 1 ∨ f k = 2 ∨ f k = 3) : Iv (S.wF (fu S.F n f)) := by
  refine ⟨h.1, h.2.1, h.2.2.1, h.2.2.2.1, h.2.2.2.2.1, h.2.2.2.2.2.1, fun j hj => ⟨(h.2.2.2.2.2.2.1 j hj).1, ?_, (h.2.2.2.2.2.2.1 j hj).2.2⟩, fun j k => ⟨(h.2.2.2.2.2.2.2.1 j k).1, (h.2.2.2.2.2.2.2.1 j k).2.1, ?_⟩, h.2.2.2.2.2.2.2.2⟩
  · show fu S.F n f j = _
    rw [fu_n (fun e => absurd (show S.nQ ≤ j from hj) (by omega))]
    exact (h.2.2.2.2.2.2.1 j hj).2.1
  · show fu S.F n f j k = 0 ∨ fu S.F n f j k = 1 ∨ fu S.F n f j k = 2 ∨ fu S.F n f j k = 3
    by_cases e : j = n
    · subst e; rw [fu_s]; exact hf k
    · rw [fu_n e]; exact (h.2.2.2.2.2.2.2.1 j k).2.2
theorem Iv.wH_ok (h : Iv S) {n : Nat} (hn : n < S.nQ) {f : Nat → UInt64} (hf : ∀ k, Eb 1412 (f k)) : Iv (S.wH (fu S.H n f)) := by
  refine ⟨h.1, h.2.1, h.2.2.1, h.2.2.2.1, h.2.2.2.2.1, h.2.2.2.2.2.1, fun j hj => ⟨(h.2.2.2.2.2.2.1 j hj).1, (h.2.2.2.2.2.2.1 j hj).2.1, ?_, (h.2.2.2.2.2.2.1 j hj).2.2.2⟩, fun j k => ⟨?_, (h.2.2.2.2.2.2.2.1 j k).2⟩, h.2.2.2.2.2.2.2.2⟩
  · show fu S.H n f j = _
    rw [fu_n (fun e => absurd (show S.nQ ≤ j from hj) (by omega))]
    exact (h.2.2.2.2.2.2.1 j hj).2.2.1
  · show Eb 1412 (fu S.H n f j k)
    by_cases e : j = n
    · subst e; rw [fu_s]; exact hf k
    · rw [fu_n e]; exact (h.2.2.2.2.2.2.2.1 j k).1
theorem Iv.wV_ok (h : Iv S) {n : Nat} (hn : n < S.nQ) {f : Nat → UInt64} (hf : ∀ k, Eb 1412 (f k)) : Iv (S.wV (fu S.V n f)) := by
  refine ⟨h.1, h.2.1, h.2.2.1, h.2.2.2.1, h.2.2.2.2.1, h.2.2.2.2.2.1, fun j hj => ⟨(h.2.2.2.2.2.2.1 j hj).1, (h.2.2.2.2.2.2.1 j hj).2.1, (h.2.2.2.2.2.2.1 j hj).2.2.1, ?_⟩, fun j k => ⟨(h.2.2.2.2.2.2.2.1 j k).1, ?_, (h.2.2.2.2.2.2.2.1 j k).2.2⟩, h.2.2.2.2.2.2.2.2⟩
  · show fu S.V n f j = _
    rw [fu_n (fun e => absurd (show S.nQ ≤ j from hj) (by omega))]
    exact (h.2.2.2.2.2.2.1 j hj).2.2.2
  · show Eb 1412 (fu S.V n f j k)
    by_cases e : j = n
    · subst e; rw [fu_s]; exact hf k
    · rw [fu_n e]; exact (h.2.2.2.2.2.2.2.1 j k).2.1
theorem Iv.wt_ok (h : Iv S) {t' : Nat → Int32} (ht : OnOk t' S.nA) : Iv (S.wt t') :=
  ⟨h.1, h.2.1, h.2.2.1, h.2.2.2.1, h.2.2.2.2.1, h.2.2.2.2.2.1, h.2.2.2.2.2.2.1, h.2.2.2.2.2.2.2.1, h.2.2.2.2.2.2.2.2.1, ht⟩
theorem Iv.wla_ok (h : Iv S) {y : UInt64} (hy : Eb 1900 y) : Iv (S.wla y) :=
  ⟨h.1, h.2.1, h.2.2.1, h.2.2.2.1, h.2.2.2.2.1, h.2.2.2.2.2.1, h.2.2.2.2.2.2.1, h.2.2.2.2.2.2.2.1, hy, h.2.2.2.2.2.2.2.2.2⟩
theorem Iv_tuS (h : Iv S) {j : Nat} (hj : j < S.nA) (y z : Int32) : Iv (tuS S j y z) := h.wA_ok hj rfl (h.2.2.2.1 j hj).2.2
theorem CrOk_0 : CrOk FP.fconst0 := ⟨0, by decide, by decide +kernel⟩
theorem Iv_stS (h : Iv S) {j : Nat} (hj : j < S.nA) : Iv (stS S j) := h.wcr_ok hj CrOk_0
theorem Iv_wiS (h : Iv S) (y : Int32) : Iv (wiS S y) := h.wc_ok rfl rfl h.2.1 h.2.2.1
theorem Iv_clS (h : Iv S) {b : Int32} (hb : b = 0 ∨ b = 1) : Iv (clS S b) := h.wc_ok rfl rfl h.2.1 hb
theorem Iv_hoS (h : Iv S) : Iv (hoS S) := h.wc_ok rfl rfl h.2.1 h.2.2.1
theorem Iv_brS (h : Iv S) : Iv (brS S) := h.wt_ok (Or.inl rfl)
theorem Iv_fiS (h : Iv S) {x y z : Int32} (hc : fiC S x y z = 0) : Iv (fiS S x y z) := by
  have hx : btw x 10 90 = true := by
    unfold fiC at hc
    by_cases q : (btw x 10 90 && (btw y (-16) 16 && btw z 1 8)) = true
    · simp only [Bool.and_eq_true] at q; exact q.1
    · rw [if_neg q] at hc; exact absurd hc (by decide)
  obtain ⟨h1, h2⟩ := btw_of hx
  refine h.wc_ok rfl rfl ?_ h.2.2.1
  show 10 ≤ x.toInt ∧ x.toInt ≤ 90
  exact ⟨Int32.le_iff_toInt_le.mp h1, Int32.le_iff_toInt_le.mp h2⟩
theorem bbF_st {f : Nat → Int32} {x : Int32} {n : Nat} (h : ∀ k, f k = 0 ∨ f k = 1 ∨ f k = 2 ∨ f k = 3) (k : Nat) : bbF f x n k = 0 ∨ bbF f x n k = 1 ∨ bbF f x n k = 2 ∨ bbF f x n k = 3 := by
  unfold bbF
  split
  · exact Or.inl rfl
  · exact h k
theorem Iv.F4 (h : Iv S) (j k : Nat) : S.F j k = 0 ∨ S.F j k = 1 ∨ S.F j k = 2 ∨ S.F j k = 3 := (h.2.2.2.2.2.2.2.1 j k).2.2
theorem Iv_meS (h : Iv S) {j : Nat} (hj : j < S.nQ) : Iv (meS S j) := h.wF_ok hj (bbF_st (h.F4 j))
theorem Iv_puQ (h : Iv S) : Iv (puQ S S.nQ) := by
  refine ⟨h.1, h.2.1, h.2.2.1, h.2.2.2.1, h.2.2.2.2.1, h.2.2.2.2.2.1, fun j hj => ⟨(h.2.2.2.2.2.2.1 j hj).1, ?_, (h.2.2.2.2.2.2.1 j hj).2.2⟩, fun j k => ⟨(h.2.2.2.2.2.2.2.1 j k).1, (h.2.2.2.2.2.2.2.1 j k).2.1, ?_⟩, h.2.2.2.2.2.2.2.2⟩
  · show (if j < S.nQ then _ else S.F j) = _
    rw [if_neg (fun e => absurd (show S.nQ ≤ j from hj) (by omega))]
    exact (h.2.2.2.2.2.2.1 j hj).2.1
  · show (if j < S.nQ then bbF (bbF (S.F j) 1 12) 2 12 else S.F j) k = 0 ∨ (if j < S.nQ then bbF (bbF (S.F j) 1 12) 2 12 else S.F j) k = 1 ∨ (if j < S.nQ then bbF (bbF (S.F j) 1 12) 2 12 else S.F j) k = 2 ∨ (if j < S.nQ then bbF (bbF (S.F j) 1 12) 2 12 else S.F j) k = 3
    by_cases e : j < S.nQ
    · rw [if_pos e]; exact bbF_st (bbF_st (h.F4 j)) k
    · rw [if_neg e]; exact h.F4 j k
theorem Iv_puA (h : Iv S) : Iv (puA S S.nA) := by
  refine ⟨h.1, h.2.1, h.2.2.1, fun i hi => ?_, fun i hi => ?_, h.2.2.2.2.2⟩
  · have hi2 : i < S.nA := hi
    show (20 ≤ ((if i < S.nA then fgtA (S.A i) else S.A i) 0).toInt ∧ ((if i < S.nA then fgtA (S.A i) else S.A i) 0).toInt ≤ 60) ∧ CrOk (S.cr i) ∧ ((if i < S.nA then fgtA (S.A i) else S.A i) 5 = -1 ∨ ∃ n, n < S.nQ ∧ (if i < S.nA then fgtA (S.A i) else S.A i) 5 = nI n)
    rw [if_pos hi2]
    exact h.2.2.2.1 i hi2
  · show (if i < S.nA then _ else S.A i) = _ ∧ _
    rw [if_neg (fun e => absurd (show S.nA ≤ i from hi) (by omega))]
    exact h.2.2.2.2.1 i hi
theorem Iv_puS (h : Iv S) : Iv (puS S) := Iv_puA (Iv_puQ h)
theorem Iv_giA (h : Iv S) (y : Int32) : Iv (giA S y) := by
  unfold giA
  split
  · next hj => exact h.wA_ok hj rfl (Or.inl rfl)
  · exact h
theorem giA_n (S : SS) (y : Int32) : (giA S y).nA = S.nA ∧ (giA S y).nQ = S.nQ := by
  unfold giA
  split
  · exact ⟨rfl, rfl⟩
  · exact ⟨rfl, rfl⟩
theorem Iv_giS (h : Iv S) {j k : Nat} (hj : j < S.nA) (hk : k < S.nQ) : Iv (giS S j (nI k)) :=
  (Iv_giA h (nI k)).wA_ok (by rw [(giA_n S (nI k)).1]; exact hj) rfl (Or.inr ⟨k, by rw [(giA_n S (nI k)).2]; exact hk, rfl⟩)
theorem Iv_maS (h : Iv S) {i j : Nat} (hi : i < S.nA) (hj : j < S.nA) (hne : i ≠ j) : Iv (maS S (nI i) (nI j)) :=
  (h.wt_ok (t' := bgT (nI i) (nI j)) (Or.inr ⟨rfl, 0, i, j, by decide, rfl, hi, rfl, hj, rfl, hne, Or.inl rfl⟩)).wc_ok rfl rfl h.2.1 h.2.2.1
theorem Iv_arS (h : Iv S) {x y : Int32} (hc : arC S x y = 0) : Iv (arS S x y) := by
  have hx : btw x 20 60 = true ∧ S.nA < 6 := by
    unfold arC at hc
    by_cases q : (btw x 20 60 && btw y 0 9) = true
    · rw [if_pos q] at hc
      simp only [Bool.and_eq_true] at q
      refine ⟨q.1, ?_⟩
      by_cases z : S.nA < 6
      · exact z
      · rw [if_neg z] at hc; exact absurd hc (by decide)
    · rw [if_neg q] at hc; exact absurd hc (by decide)
  obtain ⟨⟨h1, h2⟩, h6⟩ := And.imp_left btw_of hx
  have e5 := h.2.2.2.2.1 S.nA (Nat.le_refl _)
  refine ⟨⟨?_, show S.nA + 1 ≤ 6 from h6, h.1.2.2.1, h.1.2.2.2⟩, h.2.1, h.2.2.1, fun i hi => ?_, fun i hi => ?_, h.2.2.2.2.2.1, h.2.2.2.2.2.2.1, h.2.2.2.2.2.2.2.1, h.2.2.2.2.2.2.2.2.1, ?_⟩
  · show S.c 2 + 1 = nI (S.nA + 1)
    rw [h.1.1]; exact nI_1 _
  · show (20 ≤ (fu S.A S.nA (upd (upd (S.A S.nA) 0 x) 1 y) i 0).toInt ∧ (fu S.A S.nA (upd (upd (S.A S.nA) 0 x) 1 y) i 0).toInt ≤ 60) ∧ CrOk (S.cr i) ∧ (fu S.A S.nA (upd (upd (S.A S.nA) 0 x) 1 y) i 5 = -1 ∨ ∃ n, n < S.nQ ∧ fu S.A S.nA (upd (upd (S.A S.nA) 0 x) 1 y) i 5 = nI n)
    by_cases e : i = S.nA
    · subst e
      rw [fu_s]
      refine ⟨⟨Int32.le_iff_toInt_le.mp h1, Int32.le_iff_toInt_le.mp h2⟩, ?_, Or.inl ?_⟩
      · rw [e5.2]; exact CrOk_0
      · show S.A S.nA 5 = -1
        rw [e5.1]; rfl
    · rw [fu_n e]
      exact h.2.2.2.1 i (by have : i < S.nA + 1 := hi; omega)
  · have hi2 : S.nA + 1 ≤ i := hi
    show fu S.A S.nA _ i = _ ∧ _
    rw [fu_n (by omega)]
    exact h.2.2.2.2.1 i (by omega)
  · rcases h.2.2.2.2.2.2.2.2.2 with q | ⟨q, k, i, j, a, b, c, d, e, f, r⟩
    · exact Or.inl q
    · exact Or.inr ⟨q, k, i, j, a, b, Nat.lt_succ_of_lt c, d, Nat.lt_succ_of_lt e, f, r⟩
theorem Iv_quS (h : Iv S) {x y : Int32} (hc : quC S x y = 0) : Iv (quS S x y) := by
  have hx : btw x 200 600 = true ∧ S.nQ < 6 := by
    unfold quC at hc
    by_cases q : (btw x 200 600 && btw y 300 1100) = true
    · rw [if_pos q] at hc
      simp only [Bool.and_eq_true] at q
      refine ⟨q.1, ?_⟩
      by_cases z : S.nQ < 6
      · exact z
      · rw [if_neg z] at hc; exact absurd hc (by decide)
    · rw [if_neg q] at hc; exact absurd hc (by decide)
  obtain ⟨⟨h1, h2⟩, h6⟩ := And.imp_left btw_of hx
  refine ⟨⟨h.1.1, h.1.2.1, ?_, show S.nQ + 1 ≤ 6 from h6⟩, h.2.1, h.2.2.1, fun i hi => ⟨(h.2.2.2.1 i hi).1, (h.2.2.2.1 i hi).2.1, ?_⟩, h.2.2.2.2.1, fun j hj => ?_, fun j hj => ?_, h.2.2.2.2.2.2.2.1, h.2.2.2.2.2.2.2.2⟩
  · show S.c 3 + 1 = nI (S.nQ + 1)
    rw [h.1.2.2.1]; exact nI_1 _
  · rcases (h.2.2.2.1 i hi).2.2 with q | ⟨n, hn, q⟩
    · exact Or.inl q
    · exact Or.inr ⟨n, Nat.lt_succ_of_lt hn, q⟩
  · show 200 ≤ (fu S.q S.nQ (upd (upd (S.q S.nQ) 0 x) 1 y) j 0).toInt ∧ (fu S.q S.nQ (upd (upd (S.q S.nQ) 0 x) 1 y) j 0).toInt ≤ 600
    by_cases e : j = S.nQ
    · subst e
      rw [fu_s]
      exact ⟨Int32.le_iff_toInt_le.mp h1, Int32.le_iff_toInt_le.mp h2⟩
    · rw [fu_n e]
      exact h.2.2.2.2.2.1 j (by have : j < S.nQ + 1 := hj; omega)
  · have hj2 : S.nQ + 1 ≤ j := hj
    show fu S.q S.nQ _ j = _ ∧ _
    rw [fu_n (by omega)]
    exact h.2.2.2.2.2.2.1 j (by omega)
theorem upd_st {f : Nat → Int32} {k : Nat} {x : Int32} (h : ∀ k, f k = 0 ∨ f k = 1 ∨ f k = 2 ∨ f k = 3) (hx : x = 0 ∨ x = 1 ∨ x = 2 ∨ x = 3) (i : Nat) : upd f k x i = 0 ∨ upd f k x i = 1 ∨ upd f k x i = 2 ∨ upd f k x i = 3 := by
  unfold upd
  split
  · exact hx
  · exact h i
theorem vupd_eb {f : Nat → UInt64} {k : Nat} {x : UInt64} (h : ∀ k, Eb 1412 (f k)) (hx : Eb 1412 x) (i : Nat) : Eb 1412 (vf_upd f k x i) := by
  unfold vf_upd
  split
  · exact hx
  · exact h i
theorem Iv_spS (h : Iv S) (a b : UInt64) : Iv (spS S a b) := by
  unfold spS
  split
  · next hn => exact (h.wF_ok hn (upd_st (h.F4 _) (Or.inr (Or.inr (Or.inr rfl))))).wc_ok rfl rfl h.2.1 h.2.2.1
  · exact h
theorem Iv_ldS (h : Iv S) {n y : Nat} (hn : n < S.nQ) {a b : UInt64} (ha : Eb 1412 a) (hb : Eb 1412 b) (sc : Int32) : Iv (ldS S n y a b sc) :=
  Iv.wF_ok (S := (S.wH (fu S.H n (vf_upd (S.H n) y a))).wV (fu S.V n (vf_upd (S.V n) y b))) (Iv.wV_ok (S := S.wH (fu S.H n (vf_upd (S.H n) y a))) (h.wH_ok hn (vupd_eb (fun k => (h.2.2.2.2.2.2.2.1 n k).1) ha)) hn (vupd_eb (fun k => (h.2.2.2.2.2.2.2.1 n k).2.1) hb)) hn (upd_st (h.F4 n) (by
    split
    · exact Or.inr (Or.inr (Or.inl rfl))
    · exact Or.inr (Or.inl rfl)))
theorem CrOk_nx {c : UInt32} (h : CrOk c) : CrOk (crNx c) := by
  obtain ⟨k, hk, rfl⟩ := h
  have key : ∀ k, k < 33 → crNx (crk k) = crk (min (k + 1) 32) := by
    unfold crNx
    decide +kernel
  exact ⟨min (k + 1) 32, by omega, key k hk⟩
theorem Iv_ctA (h : Iv S) {j : Nat} (hj : j < S.nA) (sc : Int32) : Iv (ctA S j sc) :=
  Iv.wc_ok (S := (S.wA (fu S.A j (cntA (S.A j) sc))).wcr (fu S.cr j (crNx (S.cr j)))) (Iv.wcr_ok (S := S.wA (fu S.A j (cntA (S.A j) sc))) (h.wA_ok hj rfl (h.2.2.2.1 j hj).2.2) hj (CrOk_nx (h.2.2.2.1 j hj).2.1)) rfl rfl h.2.1 h.2.2.1
theorem Iv_shS0 (h : Iv S) {j n : Nat} (hj : j < S.nA) (hn : n < S.nQ) (y : Nat) : Iv (shS0 S j n y) := by
  obtain ⟨b1, b2⟩ := sh_ok h hj hn
  have h1 : Iv (S.wc (upd S.c 8 (drN S))) := h.wc_ok rfl rfl h.2.1 h.2.2.1
  have h2 := Iv_spS h1 (shH S j n) (shV S j n)
  have e1 := spS_nA (S.wc (upd S.c 8 (drN S))) (shH S j n) (shV S j n)
  have e2 := spS_nQ (S.wc (upd S.c 8 (drN S))) (shH S j n) (shV S j n)
  unfold shS0
  generalize spS (S.wc (upd S.c 8 (drN S))) (shH S j n) (shV S j n) = S2 at *
  exact Iv_ctA (S := ldS S2 n y (shH S j n) (shV S j n) (shR S j n)) (Iv_ldS h2 (by rw [e2]; exact hn) b1 b2 _) (show j < S2.nA by rw [e1]; exact hj) _
theorem shS0_n (S : SS) (j n y : Nat) : (shS0 S j n y).nA = S.nA ∧ (shS0 S j n y).nQ = S.nQ ∧ (shS0 S j n y).t = S.t ∧ (shS0 S j n y).la = S.la := by
  have e1 := spS_nA (S.wc (upd S.c 8 (drN S))) (shH S j n) (shV S j n)
  have e2 := spS_nQ (S.wc (upd S.c 8 (drN S))) (shH S j n) (shV S j n)
  have e3 := spS_t (S.wc (upd S.c 8 (drN S))) (shH S j n) (shV S j n)
  have e4 := spS_la (S.wc (upd S.c 8 (drN S))) (shH S j n) (shV S j n)
  unfold shS0
  generalize spS (S.wc (upd S.c 8 (drN S))) (shH S j n) (shV S j n) = S2 at *
  exact ⟨e1, e2, e3, e4⟩
theorem OnOk_ct (h : Iv S) (h0 : ¬ S.t 0 = 0) (sc : Int32) : OnOk (ctT S.t sc (ix (S.t 7))) S.nA := by
  obtain ⟨h1, k, i, j, hk4, hk, hi, e1, hj, e2, hij, h8⟩ := h.on h0
  rw [hk, ix_nI hk4 (by decide)]
  refine Or.inr ?_
  unfold ctT
  by_cases q : S.t 8 = 0
  · rw [if_pos q]
    by_cases z : 4 ≤ S.t 7 + 1
    · rw [if_pos z]
      refine ⟨h1, 0, i, j, by decide, rfl, hi, e1, hj, e2, hij, ?_⟩
      rw [esT_8]
      split
      · exact Or.inl rfl
      · split
        · exact Or.inl rfl
        · exact Or.inr ⟨rfl, by decide⟩
    · rw [if_neg z]
      have hk3 : k + 1 < 4 := by
        rw [hk, nI_1] at z
        exact Nat.lt_of_not_le (fun y => z (nI_le (a := 4) y (by omega)))
      exact ⟨h1, k + 1, i, j, hk3, by show S.t 7 + 1 = nI (k + 1); rw [hk]; exact nI_1 k, hi, e1, hj, e2, hij, Or.inl q⟩
  · rw [if_neg q]
    obtain ⟨q8, hk2⟩ := h8.resolve_left q
    by_cases z : k % 2 = 0
    · exact ⟨h1, 1, i, j, by decide, by show (if k % 2 = 0 then S.t 7 + 1 else 0) = nI 1; rw [if_pos z, hk, show k = 0 by omega]; rfl, hi, e1, hj, e2, hij, Or.inr ⟨q8, by decide⟩⟩
    · exact ⟨h1, 0, i, j, by decide, by show (if k % 2 = 0 then S.t 7 + 1 else 0) = nI 0; rw [if_neg z]; rfl, hi, e1, hj, e2, hij, Or.inr ⟨q8, by decide⟩⟩
theorem Iv_cmT (h : Iv S) (h0 : ¬ S.t 0 = 0) (sc : Int32) {d : UInt64} (hd : Eb 1900 d) : Iv (cmT S sc d) := by
  refine Iv.wla_ok (S := S.wt (ctT S.t sc (ix (S.t 7)))) (h.wt_ok (OnOk_ct h h0 sc)) ?_
  unfold ctL clL
  split
  · exact h.2.2.2.2.2.2.2.2.1
  · split
    · exact hd
    · exact h.2.2.2.2.2.2.2.2.1
theorem Iv_cmW (h : Iv S) {i : Nat} (hi : i < S.nA) : Iv (cmW S (nI i)) := by
  unfold cmW
  rw [ix_nI (n := 6) (by have := h.A6; omega) (by decide)]
  have h1 : Iv ((S.wt (upd S.t 0 0)).wc (upd S.c 14 (nI i))) := Iv.wc_ok (S := S.wt (upd S.t 0 0)) (h.wt_ok (Or.inl rfl)) rfl rfl h.2.1 h.2.2.1
  exact Iv.wA_ok (S := (S.wt (upd S.t 0 0)).wc (upd S.c 14 (nI i))) h1 hi rfl (h.2.2.2.1 i hi).2.2
theorem Iv_cmS (h : Iv S) (h0 : ¬ S.t 0 = 0) (sc : Int32) {d : UInt64} (hd : Eb 1900 d) : Iv (cmS S sc d) := by
  have h1 := Iv_cmT h h0 sc hd
  unfold cmS
  by_cases q : cmR S sc d = -1
  · rw [if_pos q]; exact h1
  · obtain ⟨i, hi, e⟩ := (cmR_ok h h0 sc d).resolve_left q
    rw [if_neg q, e]
    exact Iv_cmW h1 hi
theorem Iv_shS (h : Iv S) {j n : Nat} (hj : j < S.nA) (hn : n < S.nQ) (y : Nat) : Iv (shS S j n y) := by
  have h1 := Iv_shS0 h hj hn y
  obtain ⟨-, -, e3, -⟩ := shS0_n S j n y
  obtain ⟨b1, b2⟩ := sh_ok h hj hn
  unfold shS
  by_cases q : S.t 0 = 0
  · rw [if_pos q]; exact h1
  · rw [if_neg q]
    exact Iv_cmS h1 (by rw [e3]; exact q) _ (farF_ok (b1.up (by decide)) (b2.up (by decide))).2.2.2
theorem Iv_S0 : Iv S0 := by
  refine ⟨⟨rfl, by decide, rfl, by decide⟩, ⟨by decide, by decide⟩, Or.inl rfl, fun i hi => absurd hi (Nat.not_lt_zero _), fun i _ => ⟨rfl, rfl⟩, fun j hj => absurd hj (Nat.not_lt_zero _), fun j _ => ⟨rfl, rfl, rfl, rfl⟩, fun j k => ⟨by show Eb 1412 0; unfold Eb; decide, by show Eb 1412 0; unfold Eb; decide, Or.inl rfl⟩, by unfold Eb; decide, Or.inl rfl⟩
end IVS
