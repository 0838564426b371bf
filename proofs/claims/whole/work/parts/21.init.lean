/-! ===== ArrowField: a new one ===== -/
def c0F : Nat → Int32 := fun k => if k = 4 then 18 else if k = 6 then 4 else if k = 14 then -1 else 0
/-- the state of a new field -/
def S0 : SS := (0, 0, c0F, fun _ => dA, fun _ => 0, fun _ _ => 0, fun _ _ => 0, fun _ _ => 0, fun _ _ => 0, fun _ => 0, 0)
def vN (n5 n6 k i : Nat) : Prop := (k < 5 ∧ i = 0) ∨ (k = 5 ∧ i < n5) ∨ (6 ≤ k ∧ k < 10 ∧ i < n6)
def PL (g : Nat → ClassId) (a : Nat) (L : Nat → Nat → Nat) (n5 n6 : Nat) (μ0 μ : mu) : Prop :=
  (L 0 0 = a ∧ (∀ k i k' i', vN n5 n6 k i → vN n5 n6 k' i' → L k i = L k' i' → k = k' ∧ i = i') ∧ Kp a μ0 μ ∧ (∀ k i, vN n5 n6 k i → k ≠ 0 → μ0 (L k i) = none)) ∧
  μ a = some (eMn c0F (L 1 0) (L 2 0) (L 3 0) (L 4 0)) ∧ μ (L 1 0) = some (eQ (g 3) 6 (fun q => if q < n5 then some (L 5 q) else none)) ∧ μ (L 2 0) = some (eQ (g 4) 6 (fun q => if q < n6 then some (L 6 q) else none)) ∧ μ (L 3 0) = some (eMt (fun _ => 0) 0) ∧ μ (L 4 0) = some (eFl 0 0) ∧ (∀ i, i < n5 → μ (L 5 i) = some (eAr dA 0)) ∧
  (∀ i, i < n6 → μ (L 6 i) = some (eQu (fun _ => 0) (L 7 i) (L 8 i) (L 9 i)) ∧ μ (L 7 i) = some (eI g 12 (fun _ => 0)) ∧ μ (L 8 i) = some (eD g 12 (fun _ => 0)) ∧ μ (L 9 i) = some (eD g 12 (fun _ => 0)))
section PLS
variable {g : Nat → ClassId} {a n5 n6 : Nat} {L : Nat → Nat → Nat} {μ0 μ : mu}
theorem PL.live (h : PL g a L n5 n6 μ0 μ) {k i : Nat} (hv : vN n5 n6 k i) : ∃ e, μ (L k i) = some e := by
  obtain ⟨⟨h0, -, -, -⟩, m0, m1, m2, m3, m4, m5, m6⟩ := h
  rcases hv with ⟨hk, rfl⟩ | ⟨rfl, hi⟩ | ⟨hk1, hk2, hi⟩
  · rcases k with _ | _ | _ | _ | _ | k
    · exact ⟨_, by rw [h0]; exact m0⟩
    · exact ⟨_, m1⟩
    · exact ⟨_, m2⟩
    · exact ⟨_, m3⟩
    · exact ⟨_, m4⟩
    · omega
  · exact ⟨_, m5 i hi⟩
  · obtain ⟨q1, q2, q3, q4⟩ := m6 i hi
    have : k = 6 ∨ k = 7 ∨ k = 8 ∨ k = 9 := by omega
    rcases this with rfl | rfl | rfl | rfl
    · exact ⟨_, q1⟩
    · exact ⟨_, q2⟩
    · exact ⟨_, q3⟩
    · exact ⟨_, q4⟩
theorem PL.ne (h : PL g a L n5 n6 μ0 μ) {k i : Nat} (hv : vN n5 n6 k i) {o : Nat} (ho : μ o = none) : L k i ≠ o := by
  obtain ⟨e, he⟩ := h.live hv
  exact nn_ne ho he
theorem PL.ne2 (h : PL g a L n5 n6 μ0 μ) {k i k' i' : Nat} (hv : vN n5 n6 k i) (hv' : vN n5 n6 k' i') (hn : k ≠ k') : L k i ≠ L k' i' := fun q => hn (h.1.2.1 k i k' i' hv hv' q).1
/-- one archer more -/
theorem PL.stepA (h : PL g a L n5 0 μ0 μ) {o : Nat} (ho : μ o = none) : PL g a (fun k i => if k = 5 ∧ i = n5 then o else L k i) (n5 + 1) 0 μ0 (mp (mp μ o (eAr dA 0)) (L 1 0) (eQ (g 3) 6 (va_up (fun q => if q < n5 then some (L 5 q) else none) n5 (some o)))) := by
  have hne := fun {k i} (hv : vN n5 0 k i) => h.ne hv ho
  have h12 := h.ne2 (k := 1) (i := 0) (k' := 0) (i' := 0) (Or.inl ⟨by decide, rfl⟩) (Or.inl ⟨by decide, rfl⟩) (by decide)
  have hn1 := fun {k i} (hv : vN n5 0 k i) (hk : k ≠ 1) => h.ne2 hv (k' := 1) (i' := 0) (Or.inl ⟨by decide, rfl⟩) hk
  have l1 := hne (k := 1) (i := 0) (Or.inl ⟨by decide, rfl⟩)
  have keep : ∀ {b : Nat} {x : va_E}, μ b = some x → b ≠ L 1 0 → mp (mp μ o (eAr dA 0)) (L 1 0) (eQ (g 3) 6 (va_up (fun q => if q < n5 then some (L 5 q) else none) n5 (some o))) b = some x := fun hb hn => mp_k (mp_k hb (nn_ne ho hb)) hn
  obtain ⟨⟨h0, hj, hK, hF⟩, m0, m1, m2, m3, m4, m5, m6⟩ := h
  have hoo : μ0 o = none := hK.fr m0 ho
  have split : ∀ {k i : Nat}, vN (n5 + 1) 0 k i → (k = 5 ∧ i = n5) ∨ (¬ (k = 5 ∧ i = n5) ∧ vN n5 0 k i) := by
    intro k i hv
    by_cases e : k = 5 ∧ i = n5
    · exact Or.inl e
    · refine Or.inr ⟨e, ?_⟩
      unfold vN at hv ⊢
      omega
  refine ⟨⟨?_, ?_, ?_, ?_⟩, ?_, ?_, ?_, ?_, ?_, ?_, ?_⟩
  · show (if 0 = 5 ∧ 0 = n5 then o else L 0 0) = a
    rw [if_neg (by omega)]; exact h0
  · intro k i k' i' hv hv' he
    dsimp only at he
    rcases split hv with e | ⟨e, v1⟩ <;> rcases split hv' with e' | ⟨e', v1'⟩
    · exact ⟨e.1.trans e'.1.symm, e.2.trans e'.2.symm⟩
    · rw [if_pos e, if_neg e'] at he
      exact absurd he.symm (hne v1')
    · rw [if_neg e, if_pos e'] at he
      exact absurd he (hne v1)
    · rw [if_neg e, if_neg e'] at he
      exact hj _ _ _ _ v1 v1' he
  · intro b x hb hn
    have hb1 := hK b x hb hn
    refine keep hb1 fun q => ?_
    have := hF 1 0 (Or.inl ⟨by decide, rfl⟩) (by decide)
    rw [← q, hb] at this
    cases this
  · intro k i hv hk
    dsimp only
    rcases split hv with e | ⟨e, v1⟩
    · rw [if_pos e]; exact hoo
    · rw [if_neg e]; exact hF k i v1 hk
  · show _ = some (eMn c0F (if 1 = 5 ∧ 0 = n5 then o else L 1 0) (if 2 = 5 ∧ 0 = n5 then o else L 2 0) (if 3 = 5 ∧ 0 = n5 then o else L 3 0) (if 4 = 5 ∧ 0 = n5 then o else L 4 0))
    rw [if_neg (by omega), if_neg (by omega), if_neg (by omega), if_neg (by omega)]
    exact keep m0 (by rw [← h0]; exact h12.symm)
  · show mp _ _ _ (if 1 = 5 ∧ 0 = n5 then o else L 1 0) = some (eQ (g 3) 6 (fun q => if q < n5 + 1 then some (if 5 = 5 ∧ q = n5 then o else L 5 q) else none))
    rw [if_neg (by omega), mp_s]
    congr 4
    funext q
    show (if q = n5 then some o else if q < n5 then some (L 5 q) else none) = if q < n5 + 1 then some (if 5 = 5 ∧ q = n5 then o else L 5 q) else none
    by_cases e : q = n5
    · subst e; rw [if_pos rfl, if_pos (by omega), if_pos ⟨rfl, rfl⟩]
    · by_cases e2 : q < n5
      · rw [if_neg e, if_pos e2, if_pos (by omega), if_neg (by omega)]
      · rw [if_neg e, if_neg e2, if_neg (by omega)]
  · show mp _ _ _ (if 2 = 5 ∧ 0 = n5 then o else L 2 0) = some (eQ (g 4) 6 (fun q => if q < 0 then some (if 6 = 5 ∧ q = n5 then o else L 6 q) else none))
    rw [if_neg (by omega)]
    have h9 := keep m2 (hn1 (Or.inl ⟨by decide, rfl⟩) (by decide))
    rw [h9]
    rfl
  · show mp _ _ _ (if 3 = 5 ∧ 0 = n5 then o else L 3 0) = _
    rw [if_neg (by omega)]; exact keep m3 (hn1 (Or.inl ⟨by decide, rfl⟩) (by decide))
  · show mp _ _ _ (if 4 = 5 ∧ 0 = n5 then o else L 4 0) = _
    rw [if_neg (by omega)]; exact keep m4 (hn1 (Or.inl ⟨by decide, rfl⟩) (by decide))
  · intro i hi
    show mp _ _ _ (if 5 = 5 ∧ i = n5 then o else L 5 i) = _
    by_cases e : i = n5
    · rw [if_pos ⟨rfl, e⟩]; exact mp_k mp_s l1.symm
    · rw [if_neg (fun q => e q.2)]
      exact keep (m5 i (by omega)) (hn1 (Or.inr (Or.inl ⟨rfl, by omega⟩)) (by decide))
  · intro i hi; exact absurd hi (Nat.not_lt_zero _)
/-- one quiver more -/
theorem PL.stepQ (h : PL g a L 6 n6 μ0 μ) {o st hh vv : Nat} {μ1 : mu} (ho : μ o = none) (hs : μ st = none) (hhh : μ hh = none) (hvv : μ vv = none) (hK1 : Kp o μ μ1) (e1 : μ1 o = some (eQu (fun _ => 0) st hh vv)) (e2 : μ1 st = some (eI g 12 (fun _ => 0))) (e3 : μ1 hh = some (eD g 12 (fun _ => 0))) (e4 : μ1 vv = some (eD g 12 (fun _ => 0))) (hn : hh ≠ vv) :
    PL g a (fun k i => if i = n6 ∧ 6 ≤ k then (if k = 6 then o else if k = 7 then st else if k = 8 then hh else vv) else L k i) 6 (n6 + 1) μ0 (mp μ1 (L 2 0) (eQ (g 4) 6 (va_up (fun q => if q < n6 then some (L 6 q) else none) n6 (some o)))) := by
  have v2 : vN 6 n6 2 0 := Or.inl ⟨by decide, rfl⟩
  have hne := fun {k i} (hv : vN 6 n6 k i) => h.ne hv ho
  have hnes := fun {k i} (hv : vN 6 n6 k i) => h.ne hv hs
  have hneh := fun {k i} (hv : vN 6 n6 k i) => h.ne hv hhh
  have hnev := fun {k i} (hv : vN 6 n6 k i) => h.ne hv hvv
  have hn1 := fun {k i} (hv : vN 6 n6 k i) (hk : k ≠ 2) => h.ne2 hv v2 hk
  have n1 : o ≠ st := tag_ne e1 e2 rfl
  have n2 : o ≠ hh := tag_ne e1 e3 rfl
  have n3 : o ≠ vv := tag_ne e1 e4 rfl
  have n4 : st ≠ hh := tag_ne e2 e3 rfl
  have n5 : st ≠ vv := tag_ne e2 e4 rfl
  have keep : ∀ {b : Nat} {x : va_E}, μ b = some x → b ≠ L 2 0 → mp μ1 (L 2 0) (eQ (g 4) 6 (va_up (fun q => if q < n6 then some (L 6 q) else none) n6 (some o))) b = some x := fun hb hn => mp_k (hK1 _ _ hb (nn_ne ho hb)) hn
  obtain ⟨⟨h0, hj, hK, hF⟩, m0, m1, m2, m3, m4, m5, m6⟩ := h
  have fo := fun {b : Nat} (hb : μ b = none) => hK.fr m0 hb
  have split : ∀ {k i : Nat}, vN 6 (n6 + 1) k i → (i = n6 ∧ 6 ≤ k ∧ (k = 6 ∨ k = 7 ∨ k = 8 ∨ k = 9)) ∨ (¬ (i = n6 ∧ 6 ≤ k) ∧ vN 6 n6 k i) := by
    intro k i hv
    by_cases e : i = n6 ∧ 6 ≤ k
    · refine Or.inl ⟨e.1, e.2, ?_⟩
      unfold vN at hv
      omega
    · refine Or.inr ⟨e, ?_⟩
      unfold vN at hv ⊢
      omega
  have vals : ∀ {k : Nat}, (k = 6 ∨ k = 7 ∨ k = 8 ∨ k = 9) → ((if k = 6 then o else if k = 7 then st else if k = 8 then hh else vv) = o ∧ k = 6) ∨ ((if k = 6 then o else if k = 7 then st else if k = 8 then hh else vv) = st ∧ k = 7) ∨ ((if k = 6 then o else if k = 7 then st else if k = 8 then hh else vv) = hh ∧ k = 8) ∨ ((if k = 6 then o else if k = 7 then st else if k = 8 then hh else vv) = vv ∧ k = 9) := by
    intro k hk
    rcases hk with rfl | rfl | rfl | rfl
    · exact Or.inl ⟨rfl, rfl⟩
    · exact Or.inr (Or.inl ⟨rfl, rfl⟩)
    · exact Or.inr (Or.inr (Or.inl ⟨rfl, rfl⟩))
    · exact Or.inr (Or.inr (Or.inr ⟨rfl, rfl⟩))
  have old : ∀ {k i : Nat} {z : Nat}, vN 6 n6 k i → (z = o ∨ z = st ∨ z = hh ∨ z = vv) → L k i ≠ z := by
    intro k i z hv hz
    rcases hz with rfl | rfl | rfl | rfl
    · exact hne hv
    · exact hnes hv
    · exact hneh hv
    · exact hnev hv
  have four : ∀ {k : Nat}, (k = 6 ∨ k = 7 ∨ k = 8 ∨ k = 9) → ((if k = 6 then o else if k = 7 then st else if k = 8 then hh else vv) = o ∨ (if k = 6 then o else if k = 7 then st else if k = 8 then hh else vv) = st ∨ (if k = 6 then o else if k = 7 then st else if k = 8 then hh else vv) = hh ∨ (if k = 6 then o else if k = 7 then st else if k = 8 then hh else vv) = vv) := by
    intro k hk
    rcases vals hk with q | q | q | q
    · exact Or.inl q.1
    · exact Or.inr (Or.inl q.1)
    · exact Or.inr (Or.inr (Or.inl q.1))
    · exact Or.inr (Or.inr (Or.inr q.1))
  refine ⟨⟨?_, ?_, ?_, ?_⟩, ?_, ?_, ?_, ?_, ?_, ?_, ?_⟩
  · show (if 0 = n6 ∧ 6 ≤ 0 then _ else L 0 0) = a
    rw [if_neg (by omega)]; exact h0
  · intro k i k' i' hv hv' he
    dsimp only at he
    rcases split hv with ⟨e, e2', e3'⟩ | ⟨e, v1⟩ <;> rcases split hv' with ⟨f, f2, f3⟩ | ⟨f, v1'⟩
    · have z1 : i = n6 ∧ 6 ≤ k := ⟨e, e2'⟩
      have z2 : i' = n6 ∧ 6 ≤ k' := ⟨f, f2⟩
      rw [if_pos z1, if_pos z2] at he
      refine ⟨?_, e.trans f.symm⟩
      rcases vals e3' with ⟨q, r⟩ | ⟨q, r⟩ | ⟨q, r⟩ | ⟨q, r⟩ <;> rcases vals f3 with ⟨q', r'⟩ | ⟨q', r'⟩ | ⟨q', r'⟩ | ⟨q', r'⟩ <;> rw [q, q'] at he <;> first | (rw [r, r']; done) | exact absurd he n1 | exact absurd he n2 | exact absurd he n3 | exact absurd he n4 | exact absurd he n5 | exact absurd he hn | exact absurd he.symm n1 | exact absurd he.symm n2 | exact absurd he.symm n3 | exact absurd he.symm n4 | exact absurd he.symm n5 | exact absurd he.symm hn
    · have z1 : i = n6 ∧ 6 ≤ k := ⟨e, e2'⟩
      rw [if_pos z1, if_neg f] at he
      exact absurd he.symm (old v1' (four e3'))
    · have z2 : i' = n6 ∧ 6 ≤ k' := ⟨f, f2⟩
      rw [if_neg e, if_pos z2] at he
      exact absurd he (old v1 (four f3))
    · rw [if_neg e, if_neg f] at he
      exact hj _ _ _ _ v1 v1' he
  · intro b x hb hnb
    have hb1 := hK b x hb hnb
    refine keep hb1 fun q => ?_
    have := hF 2 0 v2 (by decide)
    rw [← q, hb] at this
    cases this
  · intro k i hv hk
    dsimp only
    rcases split hv with ⟨e, e2', e3'⟩ | ⟨e, v1⟩
    · have z1 : i = n6 ∧ 6 ≤ k := ⟨e, e2'⟩
      rw [if_pos z1]
      rcases four e3' with q | q | q | q <;> rw [q]
      · exact fo ho
      · exact fo hs
      · exact fo hhh
      · exact fo hvv
    · rw [if_neg e]; exact hF k i v1 hk
  · show _ = some (eMn c0F (if 0 = n6 ∧ 6 ≤ 1 then _ else L 1 0) (if 0 = n6 ∧ 6 ≤ 2 then _ else L 2 0) (if 0 = n6 ∧ 6 ≤ 3 then _ else L 3 0) (if 0 = n6 ∧ 6 ≤ 4 then _ else L 4 0))
    rw [if_neg (by omega), if_neg (by omega), if_neg (by omega), if_neg (by omega)]
    exact keep m0 (by rw [← h0]; exact hn1 (Or.inl ⟨by decide, rfl⟩) (by decide))
  · show mp _ _ _ (if 0 = n6 ∧ 6 ≤ 1 then _ else L 1 0) = some (eQ (g 3) 6 (fun q => if q < 6 then some (if q = n6 ∧ 6 ≤ 5 then _ else L 5 q) else none))
    rw [if_neg (by omega), keep m1 (hn1 (Or.inl ⟨by decide, rfl⟩) (by decide))]
    refine congrArg (fun f => some (eQ (g 3) 6 f)) (funext fun q => ?_)
    show (if q < 6 then some (L 5 q) else none) = if q < 6 then some (if q = n6 ∧ 6 ≤ 5 then _ else L 5 q) else none
    rw [if_neg (c := q = n6 ∧ 6 ≤ 5) (by omega)]
  · show mp _ _ _ (if 0 = n6 ∧ 6 ≤ 2 then _ else L 2 0) = some (eQ (g 4) 6 (fun q => if q < n6 + 1 then some (if q = n6 ∧ 6 ≤ 6 then (if 6 = 6 then o else _) else L 6 q) else none))
    rw [if_neg (by omega), mp_s]
    congr 4
    funext q
    show (if q = n6 then some o else if q < n6 then some (L 6 q) else none) = if q < n6 + 1 then some (if q = n6 ∧ 6 ≤ 6 then (if 6 = 6 then o else _) else L 6 q) else none
    by_cases e : q = n6
    · subst e; rw [if_pos rfl, if_pos (by omega), if_pos ⟨rfl, by omega⟩, if_pos rfl]
    · by_cases e2 : q < n6
      · rw [if_neg e, if_pos e2, if_pos (by omega), if_neg (by omega)]
      · rw [if_neg e, if_neg e2, if_neg (by omega)]
  · show mp _ _ _ (if 0 = n6 ∧ 6 ≤ 3 then _ else L 3 0) = _
    rw [if_neg (by omega)]; exact keep m3 (hn1 (Or.inl ⟨by decide, rfl⟩) (by decide))
  · show mp _ _ _ (if 0 = n6 ∧ 6 ≤ 4 then _ else L 4 0) = _
    rw [if_neg (by omega)]; exact keep m4 (hn1 (Or.inl ⟨by decide, rfl⟩) (by decide))
  · intro i hi
    show mp _ _ _ (if i = n6 ∧ 6 ≤ 5 then _ else L 5 i) = _
    rw [if_neg (by omega)]
    exact keep (m5 i hi) (hn1 (Or.inr (Or.inl ⟨rfl, hi⟩)) (by decide))
  · intro i hi
    show mp _ _ _ (if i = n6 ∧ 6 ≤ 6 then (if 6 = 6 then o else _) else L 6 i) = some (eQu _ (if i = n6 ∧ 6 ≤ 7 then (if 7 = 6 then o else if 7 = 7 then st else _) else L 7 i) (if i = n6 ∧ 6 ≤ 8 then (if 8 = 6 then o else if 8 = 7 then st else if 8 = 8 then hh else vv) else L 8 i) (if i = n6 ∧ 6 ≤ 9 then (if 9 = 6 then o else if 9 = 7 then st else if 9 = 8 then hh else vv) else L 9 i)) ∧ mp _ _ _ (if i = n6 ∧ 6 ≤ 7 then (if 7 = 6 then o else if 7 = 7 then st else _) else L 7 i) = _ ∧ mp _ _ _ (if i = n6 ∧ 6 ≤ 8 then (if 8 = 6 then o else if 8 = 7 then st else if 8 = 8 then hh else vv) else L 8 i) = _ ∧ mp _ _ _ (if i = n6 ∧ 6 ≤ 9 then (if 9 = 6 then o else if 9 = 7 then st else if 9 = 8 then hh else vv) else L 9 i) = _
    by_cases e : i = n6
    · have q6 : i = n6 ∧ 6 ≤ 6 := ⟨e, by omega⟩
      have q7 : i = n6 ∧ 6 ≤ 7 := ⟨e, by omega⟩
      have q8 : i = n6 ∧ 6 ≤ 8 := ⟨e, by omega⟩
      have q9 : i = n6 ∧ 6 ≤ 9 := ⟨e, by omega⟩
      rw [if_pos q6, if_pos q7, if_pos q8, if_pos q9]
      exact ⟨mp_k e1 (hne v2).symm, mp_k e2 (hnes v2).symm, mp_k e3 (hneh v2).symm, mp_k e4 (hnev v2).symm⟩
    · have hi2 : i < n6 := by omega
      obtain ⟨p1, p2, p3, p4⟩ := m6 i hi2
      have V : ∀ k, 6 ≤ k → k < 10 → vN 6 n6 k i := fun k h1 h2 => Or.inr (Or.inr ⟨h1, h2, hi2⟩)
      rw [if_neg (fun q => e q.1), if_neg (fun q => e q.1), if_neg (fun q => e q.1), if_neg (fun q => e q.1)]
      exact ⟨keep p1 (hn1 (V 6 (by omega) (by omega)) (by decide)), keep p2 (hn1 (V 7 (by omega) (by omega)) (by decide)), keep p3 (hn1 (V 8 (by omega) (by omega)) (by decide)), keep p4 (hn1 (V 9 (by omega) (by omega)) (by decide))⟩
theorem vN_vC {k i : Nat} (h : vC k i) : vN 6 6 k i := by
  unfold vC at h
  unfold vN
  omega
theorem eQ_full {cA : ClassId} {n : Nat} {f : Nat → Nat} : vp_cell cA (n, .inr (.inr (.inr (.inr (fun q => if q < n then some (f q) else none))))) = vp_cell cA (n, .inr (.inr (.inr (.inr (fun q => some (f q)))))) := by
  rw [vp_cell_q, vp_cell_q]
  unfold arrV
  congr 1
  congr 1
  funext j
  dsimp only
  rw [if_pos j.isLt]
theorem aw_swapQ {p : Program} {l : Launch} {e : Env} {R : Room} {s : State} {m : MethodId} {args : Array Value} {below : List Frame} {meth : Method} {c : Code} {Q : State → Prop} {z0 : Nat} {D : va_G} {nL cells slots pc : Nat} {lv : List (Nat × Value)} {st : List Value} {b n : Nat} {cA : ClassId} {f : Nat → Nat} (hm : μ b = some (eQ cA n (fun q => if q < n then some (f q) else none)))
    (k : Aw p l e R s m args below meth c Q z0 D nL (mp μ b (eQ cA n (fun q => some (f q)))) cells slots pc lv st) : Aw p l e R s m args below meth c Q z0 D nL μ cells slots pc lv st := fun H locs ls h1 h2 h3 => k H locs ls (by
    intro x y hx
    by_cases hxb : x = b
    · subst hxb
      rw [mp_s] at hx
      cases hx
      obtain ⟨q1, q2⟩ := h1 x _ hm
      refine ⟨?_, q2⟩
      show H[x]? = some (vp_cell _ _)
      rw [← eQ_full]
      exact q1
    · rw [mp_n hxb] at hx
      exact h1 x y hx) h2 h3
end PLS
