/-! ===== the law: what holds between two calls ===== -/
theorem inb_ix {x : Int32} {n : Nat} (h : inb x n = true) (hn : n < 2 ^ 31) : ix x < n ∧ x = nI (ix x) := by
  obtain ⟨j, hj, rfl⟩ := inb_of h hn
  rw [ix_nI hj hn]
  exact ⟨hj, rfl⟩
section LWP
variable {S : SS} {x y z : Int32}
theorem and2 {p q : Bool} {a b : Nat} (h : (if (p && q) = true then a else b + 1) = 0) : p = true ∧ q = true ∧ a = 0 := by
  by_cases z : (p && q) = true
  · rw [if_pos z] at h
    simp only [Bool.and_eq_true] at z
    exact ⟨z.1, z.2, h⟩
  · rw [if_neg z] at h; exact absurd h (Nat.succ_ne_zero _)
theorem one1 {p : Prop} [Decidable p] {a b : Nat} (h : (if p then a else b + 1) = 0) : p ∧ a = 0 := by
  by_cases z : p
  · rw [if_pos z] at h; exact ⟨z, h⟩
  · rw [if_neg z] at h; exact absurd h (Nat.succ_ne_zero _)
theorem A31 (h : Iv S) : S.nA < 2 ^ 31 := by have := h.A6; omega
theorem Q31 (h : Iv S) : S.nQ < 2 ^ 31 := by have := h.Q6; omega
theorem Iv_gi (h : Iv S) (hc : giC S x y = 0) : Iv (giS S (ix x) y) := by
  obtain ⟨h1, h2, -⟩ := and2 (b := 0) hc
  obtain ⟨g1, -⟩ := inb_ix h1 (A31 h)
  obtain ⟨g2, e2⟩ := inb_ix h2 (Q31 h)
  rw [e2]
  exact Iv_giS h g1 g2
theorem Iv_tu (h : Iv S) (hc : tuC S x y z = 0) : Iv (tuS S (ix x) y z) := Iv_tuS h (inb_ix (one1 (b := 0) hc).1 (A31 h)).1 y z
theorem Iv_st (h : Iv S) (hc : stC S x = 0) : Iv (stS S (ix x)) := Iv_stS h (inb_ix (one1 (a := 0) (b := 0) hc).1 (A31 h)).1
theorem Iv_me (h : Iv S) (hc : meC S x = 0) : Iv (meS S (ix x)) := Iv_meS h (inb_ix (one1 (a := 0) (b := 0) hc).1 (Q31 h)).1
theorem sh_of (h : Iv S) (hc : shC S x y = 0) : ix x < S.nA ∧ ∃ n, n < S.nQ ∧ S.A (ix x) 5 = nI n := by
  obtain ⟨h1, -, h3⟩ := and2 (b := 0) hc
  obtain ⟨g1, -⟩ := inb_ix h1 (A31 h)
  exact ⟨g1, (h.2.2.2.1 _ g1).2.2.resolve_left (one1 (a := 0) (b := 1) h3).1.2.1⟩
theorem Iv_sh (h : Iv S) (hc : shC S x y = 0) : Iv (shS S (ix x) (ix (S.A (ix x) 5)) (ix y)) := by
  obtain ⟨g1, n, hn, e⟩ := sh_of h hc
  rw [e, ix_nI hn (Q31 h)]
  exact Iv_shS h g1 hn _
theorem Iv_ma (h : Iv S) (hc : maC S x y = 0) : Iv (maS S x y) := by
  obtain ⟨h1, h2, h3⟩ := and2 (b := 0) hc
  obtain ⟨g1, e1⟩ := inb_ix h1 (A31 h)
  obtain ⟨g2, e2⟩ := inb_ix h2 (A31 h)
  have hne : ix x ≠ ix y := fun q => by
    have e : x = y := by rw [e1, e2, q]
    rw [if_pos e] at h3
    exact absurd h3 (by decide)
  rw [e1, e2]
  exact Iv_maS h g1 g2 hne
theorem giS_n (S : SS) (j : Nat) (y : Int32) : (giS S j y).nA = S.nA ∧ (giS S j y).nQ = S.nQ := giA_n S y
theorem cmS_n (S : SS) (sc : Int32) (d : UInt64) : (cmS S sc d).nA = S.nA ∧ (cmS S sc d).nQ = S.nQ := by
  unfold cmS
  split <;> exact ⟨rfl, rfl⟩
theorem shS_n (S : SS) (j n y : Nat) : (shS S j n y).nA = S.nA ∧ (shS S j n y).nQ = S.nQ := by
  obtain ⟨e1, e2, -, -⟩ := shS0_n S j n y
  unfold shS
  split
  · exact ⟨e1, e2⟩
  · obtain ⟨g1, g2⟩ := cmS_n (shS0 S j n y) (shR S j n) (farF (shH S j n) (shV S j n))
    exact ⟨g1.trans e1, g2.trans e2⟩
theorem nn_st (h : Iv S) (hc : stC S x = 0) : Nn (FP.f2d (S.cr (ix x))) := by
  obtain ⟨k, hk, e⟩ := (h.2.2.2.1 _ (inb_ix (one1 (a := 0) (b := 0) hc).1 (A31 h)).1).2.1
  rw [e]
  exact Eb.nn (K := 1024) (crk_ok k hk).1 (by decide)
theorem nn_sd (h : Iv S) (hc : stC S x = 0) : Nn (sdF S (ix x)) := (sd_ok h (inb_ix (one1 (a := 0) (b := 0) hc).1 (A31 h)).1).nn (by decide)
theorem nn_hi (h : Iv S) (b : Int32) : Nn (hiF S (ix x) (ix y) b) := by
  unfold hiF
  split
  · exact (h.2.2.2.2.2.2.2.1 _ _).1.nn (by decide)
  · exact (h.2.2.2.2.2.2.2.1 _ _).2.1.nn (by decide)
theorem nn_wh (h : Iv S) (b : Int32) (hc : whC S x y = 0) : Nn (whF S (ix x) y b) := by
  obtain ⟨h1, h2⟩ := one1 (b := 0) hc
  obtain ⟨-, h3⟩ := one1 (b := 1) h2
  obtain ⟨g1, -⟩ := inb_ix h1 (A31 h)
  have hq : ¬ S.A (ix x) 5 = -1 := fun q => by rw [if_pos q] at h3; exact absurd h3 (by decide)
  obtain ⟨n, hn, e⟩ := (h.2.2.2.1 _ g1).2.2.resolve_left hq
  have f := fl_ok h g1 hn y h.2.1.2
  unfold whF
  rw [e, ix_nI hn (Q31 h)]
  split
  · exact f.1.nn (by decide)
  · exact f.2.nn (by decide)
theorem lt_ar : arC S x y < 2 ^ 31 := by unfold arC; (repeat' split) <;> decide
theorem lt_qu : quC S x y < 2 ^ 31 := by unfold quC; (repeat' split) <;> decide
theorem lt_gi : giC S x y < 2 ^ 31 := by unfold giC; (repeat' split) <;> decide
theorem lt_tu : tuC S x y z < 2 ^ 31 := by unfold tuC; (repeat' split) <;> decide
theorem lt_st : stC S x < 2 ^ 31 := by unfold stC; (repeat' split) <;> decide
theorem lt_fi : fiC S x y z < 2 ^ 31 := by unfold fiC; (repeat' split) <;> decide
theorem lt_wi : wiC x < 2 ^ 31 := by unfold wiC; (repeat' split) <;> decide
theorem lt_sh : shC S x y < 2 ^ 31 := by unfold shC; (repeat' split) <;> decide
theorem lt_me : meC S x < 2 ^ 31 := by unfold meC; (repeat' split) <;> decide
theorem lt_ma : maC S x y < 2 ^ 31 := by unfold maC; (repeat' split) <;> decide
theorem lt_br : brC S < 2 ^ 31 := by unfold brC; (repeat' split) <;> decide
theorem lt_oa : oaC S x y < 2 ^ 31 := by unfold oaC; (repeat' split) <;> decide
theorem lt_oq : oqC S x y < 2 ^ 31 := by unfold oqC; (repeat' split) <;> decide
theorem lt_hi : hiC S x y < 2 ^ 31 := by unfold hiC; (repeat' split) <;> decide
theorem lt_mn : mnC x < 2 ^ 31 := by unfold mnC; (repeat' split) <;> decide
theorem lt_om : omC x < 2 ^ 31 := by unfold omC; (repeat' split) <;> decide
theorem lt_wh : whC S x y < 2 ^ 31 := by unfold whC; (repeat' split) <;> decide
theorem lt_rd : rdC S x < 2 ^ 31 := by unfold rdC; (repeat' split) <;> decide
end LWP
theorem lg_self (x : Int64) : lg_cmp x x = 0 := by
  unfold lg_cmp
  rw [if_neg (Int64.lt_irrefl), if_pos rfl]
theorem nI_a2 (a : Nat) : nI a + 2 = nI (a + 2) := by rw [← nI_1, ← nI_1, Int32.add_assoc]; rfl
theorem nI_a3 (a : Nat) : nI a + 3 = nI (a + 3) := by rw [← nI_1, ← nI_1, ← nI_1, Int32.add_assoc, Int32.add_assoc]; rfl
theorem nI_i4 (a : Nat) : nI a + Int32.ofInt 4 = nI (a + 4) := by rw [← nI_1, ← nI_1, ← nI_1, ← nI_1, Int32.add_assoc, Int32.add_assoc, Int32.add_assoc]; rfl
/-- the two objects, the two arrays, the state that both bear, behind q calls -/
def LwI (g : Nat → ClassId) (e0 : Nat) (L K : Nat → Nat → Nat) (S : SS) (o3 o4 q : Nat) (μ : mu) : Prop :=
  RX g L S μ ∧ (∃ X : XS, RM g K e0 S X μ ∧ MR S X q) ∧ Iv S ∧ (∀ k i k' i', vC k i → vM S.nA S.nQ k' i' → L k i ≠ K k' i') ∧ (∃ f : Nat → Int64, μ o3 = some (eJ g 1 f)) ∧ (∃ f : Nat → UInt64, μ o4 = some (eD g 1 f)) ∧ (∀ k i, vC k i → o3 ≠ L k i) ∧ (∀ k i, vC k i → o4 ≠ L k i) ∧ (∀ k i, vM S.nA S.nQ k i → o3 ≠ K k i) ∧ (∀ k i, vM S.nA S.nQ k i → o4 ≠ K k i) ∧ o3 ≠ o4
theorem ifn {c : Nat} {S' S : SS} (h : S'.nA = S.nA ∧ S'.nQ = S.nQ) : (if c = 0 then S' else S).nA = S.nA ∧ (if c = 0 then S' else S).nQ = S.nQ := by
  by_cases z : c = 0
  · rw [if_pos z]; exact h
  · rw [if_neg z]; exact ⟨rfl, rfl⟩
theorem ifI {c : Nat} {S' S : SS} (h : c = 0 → Iv S') (hI : Iv S) : Iv (if c = 0 then S' else S) := by
  by_cases z : c = 0
  · rw [if_pos z]; exact h z
  · rw [if_neg z]; exact hI
/-- behind a class's call and the reference's that makes no cells -/
theorem LwI.step {g : Nat → ClassId} {e0 : Nat} {L K : Nat → Nat → Nat} {S S' : SS} {o3 o4 q q' : Nat} {μ μ1 μ2 : mu} {X2 : XS} (h : LwI g e0 L K S o3 o4 q μ) (hn : S'.nA = S.nA ∧ S'.nQ = S.nQ) (hI : Iv S') (hX1 : RX g L S' μ1) (hf3 : ∃ f : Nat → Int64, μ1 o3 = some (eJ g 1 f)) (hf4 : ∃ f : Nat → UInt64, μ1 o4 = some (eD g 1 f)) (hM2 : RM g K e0 S' X2 μ2) (hR2 : MR S' X2 q') (hF2 : FrM K S.nA S.nQ μ1 μ2) : LwI g e0 L K S' o3 o4 q' μ2 := by
  obtain ⟨-, -, -, hD, -, -, n3, n4, m3, m4, n34⟩ := h
  obtain ⟨f3, h3⟩ := hf3
  obtain ⟨f4, h4⟩ := hf4
  refine ⟨hX1.kp (fun k i e hv h => hF2 _ _ h (fun k' i' hv' => hD k i k' i' hv hv')), ⟨X2, hM2, hR2⟩, hI, ?_, ⟨f3, hF2 _ _ h3 m3⟩, ⟨f4, hF2 _ _ h4 m4⟩, n3, n4, ?_, ?_, n34⟩
  · rw [hn.1, hn.2]; exact hD
  · rw [hn.1, hn.2]; exact m3
  · rw [hn.1, hn.2]; exact m4
/-- .. that may make cells -/
theorem LwI.stepK {g : Nat → ClassId} {e0 : Nat} {L K K' : Nat → Nat → Nat} {S S' : SS} {o3 o4 q q' : Nat} {μ μ1 μ2 : mu} {X2 : XS} (h : LwI g e0 L K S o3 o4 q μ) (hI : Iv S') (hX1 : RX g L S' μ1) (hf3 : ∃ f : Nat → Int64, μ1 o3 = some (eJ g 1 f)) (hf4 : ∃ f : Nat → UInt64, μ1 o4 = some (eD g 1 f)) (hM2 : RM g K' e0 S' X2 μ2) (hR2 : MR S' X2 q') (hF2 : FrM K S.nA S.nQ μ1 μ2) (hG : GrN K K' S.nA S.nQ S'.nA S'.nQ μ1) : LwI g e0 L K' S' o3 o4 q' μ2 := by
  obtain ⟨-, -, -, hD, -, -, n3, n4, m3, m4, n34⟩ := h
  obtain ⟨f3, h3⟩ := hf3
  obtain ⟨f4, h4⟩ := hf4
  refine ⟨hX1.kp (fun k i e hv h => hF2 _ _ h (fun k' i' hv' => hD k i k' i' hv hv')), ⟨X2, hM2, hR2⟩, hI, ?_, ⟨f3, hF2 _ _ h3 m3⟩, ⟨f4, hF2 _ _ h4 m4⟩, n3, n4, ?_, ?_, n34⟩
  · intro k i k' i' hv hv'
    rcases hG k' i' hv' with ⟨a, b⟩ | a
    · rw [b]; exact hD k i k' i' hv a
    · obtain ⟨e, he⟩ := hX1.some hv
      exact nn_ne a he
  · intro k i hv
    rcases hG k i hv with ⟨a, b⟩ | a
    · rw [b]; exact m3 k i a
    · exact nn_ne a h3
  · intro k i hv
    rcases hG k i hv with ⟨a, b⟩ | a
    · rw [b]; exact m4 k i a
    · exact nn_ne a h4
/-- the reference's cells behind a call of the class -/
theorem LwI.moved {g : Nat → ClassId} {e0 : Nat} {L K : Nat → Nat → Nat} {S : SS} {o3 o4 q o : Nat} {μ μ1 : mu} {X : XS} (h : LwI g e0 L K S o3 o4 q μ) (hM : RM g K e0 S X μ) (hF : FrO L o μ μ1) (ho : o = o3 ∨ o = o4) : RM g K e0 S X μ1 := by
  obtain ⟨-, -, -, hD, -, -, n3, n4, m3, m4, n34⟩ := h
  refine hM.kp (fun k i e hv h => hF _ _ h (fun k' i' hv' z => hD k' i' k i hv' hv z.symm) (fun z => ?_))
  rcases ho with rfl | rfl
  · exact m3 k i hv z.symm
  · exact m4 k i hv z.symm
