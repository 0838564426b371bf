/-! ===== the reference's cells as they grow ===== -/
def KA (K : Nat → Nat → Nat) (nA o1 o2 : Nat) : Nat → Nat → Nat := fun k i => if k = 8 ∧ i = nA then o1 else if k = 6 then o2 else K k i
section GROWA
variable {g : Nat → ClassId} {K : Nat → Nat → Nat} {e0 : Nat} {S : SS} {X : XS} {μ μ' : mu} {nA nQ o1 o2 : Nat}
theorem KA_cases {k i : Nat} (hv : vM (nA + 1) nQ k i) : (k = 8 ∧ i = nA) ∨ (k = 6 ∧ i = 0 ∧ nA = 0) ∨ vM nA nQ k i := by
  rcases hv with h | h | h | h | h
  · exact Or.inr (Or.inr (Or.inl h))
  · rcases Nat.eq_zero_or_pos nA with q | q
    · exact Or.inr (Or.inl ⟨h.1, h.2.1, q⟩)
    · exact Or.inr (Or.inr (Or.inr (Or.inl ⟨h.1, h.2.1, q⟩)))
  · exact Or.inr (Or.inr (Or.inr (Or.inr (Or.inl h))))
  · by_cases q : i = nA
    · exact Or.inl ⟨h.1, q⟩
    · exact Or.inr (Or.inr (Or.inr (Or.inr (Or.inr (Or.inl ⟨h.1, by omega⟩)))))
  · exact Or.inr (Or.inr (Or.inr (Or.inr (Or.inr (Or.inr h)))))
theorem KA_1 : KA K nA o1 o2 8 nA = o1 := if_pos ⟨rfl, rfl⟩
theorem KA_6 {i : Nat} : KA K nA o1 o2 6 i = o2 := by
  unfold KA
  rw [if_neg (by omega), if_pos rfl]
theorem KA_old {k i : Nat} (hv : vM nA nQ k i) (h6 : 0 < nA → o2 = K 6 0) : KA K nA o1 o2 k i = K k i := by
  unfold KA
  rcases hv with h | h | h | h | h
  · rw [if_neg (by omega), if_neg (by omega)]
  · obtain ⟨h1, h2, q⟩ := h
    rw [if_neg (by omega), if_pos h1, h1, h2]
    exact h6 q
  · rw [if_neg (by omega), if_neg (by omega)]
  · rw [if_neg (by omega), if_neg (by omega)]
  · rw [if_neg (by omega), if_neg (by omega)]
theorem KA_ki (h : KI K nA nQ) (f1 : ∀ k i, vM nA nQ k i → o1 ≠ K k i) (f2 : nA = 0 → (∀ k i, vM nA nQ k i → o2 ≠ K k i) ∧ o2 ≠ o1) (h6 : 0 < nA → o2 = K 6 0) : KI (KA K nA o1 o2) (nA + 1) nQ := by
  intro k i k' i' hv hv' e
  rcases KA_cases hv with ⟨a1, a2⟩ | ⟨a1, a2, z⟩ | q <;> rcases KA_cases hv' with ⟨b1, b2⟩ | ⟨b1, b2, z'⟩ | q'
  · exact ⟨a1.trans b1.symm, a2.trans b2.symm⟩
  · rw [a1, a2, b1, b2, KA_1, KA_6] at e; exact absurd e.symm (f2 z').2
  · rw [a1, a2, KA_1, KA_old q' h6] at e; exact absurd e (f1 _ _ q')
  · rw [a1, a2, b1, b2, KA_1, KA_6] at e; exact absurd e (f2 z).2
  · exact ⟨a1.trans b1.symm, a2.trans b2.symm⟩
  · rw [a1, a2, KA_6, KA_old q' h6] at e; exact absurd e ((f2 z).1 _ _ q')
  · rw [b1, b2, KA_1, KA_old q h6] at e; exact absurd e.symm (f1 _ _ q)
  · rw [b1, b2, KA_6, KA_old q h6] at e; exact absurd e.symm ((f2 z').1 _ _ q)
  · rw [KA_old q h6, KA_old q' h6] at e; exact h _ _ _ _ q q' e
theorem RM.growA (h : RM g K e0 S X μ) {A' : Nat → Int32} {S' : SS} (hS : S' = ((S.wA (fu S.A S.nA A')).wc (upd S.c 2 (S.c 2 + 1))).wnA (S.nA + 1)) (f1 : μ o1 = none) (f2 : S.nA = 0 → μ o2 = none ∧ o2 ≠ o1) (h6 : 0 < S.nA → o2 = K 6 0)
    (e1 : μ' o1 = some (eXa A' (S.cr S.nA))) (e2 : μ' o2 = some (eQ (g 5) 10 (va_up (fun q => if q < S.nA then some (K 8 q) else none) S.nA (some o1)))) (e3 : μ' (K 1 0) = some (eAl (nI (S.nA + 1)) o2 (nI (S.nA + 1)))) (kp : ∀ a x, μ a = some x → a ≠ K 1 0 → a ≠ o2 → μ' a = some x) :
    RM g (KA K S.nA o1 o2) e0 S' X μ' ∧ FrM K S.nA S.nQ μ μ' ∧ (∀ k i, vM (S.nA + 1) S.nQ k i → (vM S.nA S.nQ k i ∧ KA K S.nA o1 o2 k i = K k i) ∨ μ (KA K S.nA o1 o2 k i) = none) := by
  subst hS
  have q {k i : Nat} {x : va_E} (hx : μ (K k i) = some x) (hv : vM S.nA S.nQ k i) (h1 : k ≠ 1) (h6' : k ≠ 6) : μ' (K k i) = some x := kp _ _ hx (h.ki.ne hv (m0 (by decide)) (Or.inl h1)) (fun z => by
    rcases Nat.eq_zero_or_pos S.nA with y | y
    · rw [z, (f2 y).1] at hx; cases hx
    · rw [h6 y] at z; exact absurd z (h.ki.ne hv (m6 y) (Or.inl h6')))
  refine ⟨⟨KA_ki h.ki (h.nk f1) (fun y => ⟨h.nk (f2 y).1, (f2 y).2⟩) h6, ?_, ?_, ?_, ?_, ?_, ?_, ?_, ?_, ?_, ?_, ?_, ?_, ?_⟩, ?_, ?_⟩
  · show μ' (K 0 0) = some (eMo (mF S X) (K 1 0) (K 2 0) (K 3 0) (K 4 0) (K 5 0) X.ne X.h X.v X.sm)
    exact q h.mo (m0 (by decide)) (by decide) (by decide)
  · show μ' (K 1 0) = some (eAl (nI (S.nA + 1)) (if S.nA + 1 = 0 then e0 else o2) (nI (S.nA + 1)))
    rw [if_neg (by omega)]; exact e3
  · show μ' (K 2 0) = some (eAl (nI S.nQ) (if S.nQ = 0 then e0 else K 7 0) (nI S.nQ))
    exact q h.qL (m0 (by decide)) (by decide) (by decide)
  · exact q h.pa (m0 (by decide)) (by decide) (by decide)
  · exact q h.po (m0 (by decide)) (by decide) (by decide)
  · exact q h.su (m0 (by decide)) (by decide) (by decide)
  · intro _
    show μ' o2 = some (eQ (g 5) 10 (fun q => if q < S.nA + 1 then some (KA K S.nA o1 o2 8 q) else none))
    rw [e2]
    have e : va_up (fun q => if q < S.nA then some (K 8 q) else none) S.nA (some o1) = fun q => if q < S.nA + 1 then some (KA K S.nA o1 o2 8 q) else none := by
      funext q
      unfold va_up
      by_cases z : q = S.nA
      · rw [if_pos z, if_pos (by omega), z, KA_1]
      · rw [if_neg z]
        show (if q < S.nA then some (K 8 q) else none) = _
        by_cases y : q < S.nA
        · rw [if_pos y, if_pos (by omega), KA_old (nQ := S.nQ) (m8 y) h6]
        · rw [if_neg y, if_neg (by omega)]
    rw [e]
  · intro z
    exact q (h.qE z) (m7 z) (by decide) (by decide)
  · intro i hi
    have hi2 : i < S.nA + 1 := hi
    show μ' (KA K S.nA o1 o2 8 i) = some (eXa (fu S.A S.nA A' i) (S.cr i))
    by_cases z : i = S.nA
    · rw [z, KA_1, fu_s]; exact e1
    · have hi3 : i < S.nA := by omega
      rw [KA_old (nQ := S.nQ) (m8 hi3) h6, fu_n z]; exact q (h.xa hi3) (m8 hi3) (by decide) (by decide)
  · intro i hi; exact q (h.xq hi) (m9 (by decide) hi) (by decide) (by decide)
  · intro i hi; exact q (h.wh hi) (m9 (by decide) hi) (by decide) (by decide)
  · intro i hi; exact q (h.hh hi) (m9 (by decide) hi) (by decide) (by decide)
  · intro i hi; exact q (h.vv hi) (m9 (by decide) hi) (by decide) (by decide)
  · intro a x ha hn
    refine kp a x ha (hn 1 0 (m0 (by decide))) (fun z => ?_)
    rcases Nat.eq_zero_or_pos S.nA with y | y
    · rw [z, (f2 y).1] at ha; cases ha
    · exact hn 6 0 (m6 y) (z.trans (h6 y))
  · intro k i hv
    rcases KA_cases hv with ⟨a1, a2⟩ | ⟨a1, a2, z⟩ | z
    · exact Or.inr (by rw [a1, a2, KA_1]; exact f1)
    · exact Or.inr (by rw [a1, a2, KA_6]; exact (f2 z).1)
    · exact Or.inl ⟨z, KA_old z h6⟩
end GROWA
def KQ (K : Nat → Nat → Nat) (nQ : Nat) (N : Nat → Nat) (o2 : Nat) : Nat → Nat → Nat := fun k i => if 9 ≤ k ∧ i = nQ then N k else if k = 7 then o2 else K k i
section GROWQ
variable {g : Nat → ClassId} {K : Nat → Nat → Nat} {e0 : Nat} {S : SS} {X : XS} {μ μ' : mu} {nA nQ o2 : Nat} {N : Nat → Nat}
theorem KQ_cases {k i : Nat} (hv : vM nA (nQ + 1) k i) : (9 ≤ k ∧ k < 13 ∧ i = nQ) ∨ (k = 7 ∧ i = 0 ∧ nQ = 0) ∨ vM nA nQ k i := by
  rcases hv with h | h | h | h | h
  · exact Or.inr (Or.inr (Or.inl h))
  · exact Or.inr (Or.inr (Or.inr (Or.inl h)))
  · rcases Nat.eq_zero_or_pos nQ with q | q
    · exact Or.inr (Or.inl ⟨h.1, h.2.1, q⟩)
    · exact Or.inr (Or.inr (Or.inr (Or.inr (Or.inl ⟨h.1, h.2.1, q⟩))))
  · exact Or.inr (Or.inr (Or.inr (Or.inr (Or.inr (Or.inl h)))))
  · by_cases q : i = nQ
    · exact Or.inl ⟨h.1, h.2.1, q⟩
    · exact Or.inr (Or.inr (Or.inr (Or.inr (Or.inr (Or.inr ⟨h.1, h.2.1, by omega⟩)))))
theorem KQ_1 {k : Nat} (h : 9 ≤ k) : KQ K nQ N o2 k nQ = N k := if_pos ⟨h, rfl⟩
theorem KQ_7 {i : Nat} : KQ K nQ N o2 7 i = o2 := by
  unfold KQ
  rw [if_neg (by omega), if_pos rfl]
theorem KQ_old {k i : Nat} (hv : vM nA nQ k i) (h6 : 0 < nQ → o2 = K 7 0) : KQ K nQ N o2 k i = K k i := by
  unfold KQ
  rcases hv with h | h | h | h | h
  · rw [if_neg (by omega), if_neg (by omega)]
  · rw [if_neg (by omega), if_neg (by omega)]
  · obtain ⟨h1, h2, q⟩ := h
    rw [if_neg (by omega), if_pos h1, h1, h2]
    exact h6 q
  · rw [if_neg (by omega), if_neg (by omega)]
  · rw [if_neg (by omega), if_neg (by omega)]
theorem KQ_ki (h : KI K nA nQ) (hN : ∀ k k', 9 ≤ k → k < 13 → 9 ≤ k' → k' < 13 → N k = N k' → k = k') (f1 : ∀ k', 9 ≤ k' → k' < 13 → ∀ k i, vM nA nQ k i → N k' ≠ K k i) (f2 : nQ = 0 → (∀ k i, vM nA nQ k i → o2 ≠ K k i) ∧ ∀ k', 9 ≤ k' → k' < 13 → o2 ≠ N k') (h6 : 0 < nQ → o2 = K 7 0) : KI (KQ K nQ N o2) nA (nQ + 1) := by
  intro k i k' i' hv hv' e
  rcases KQ_cases hv with ⟨a1, a3, a2⟩ | ⟨a1, a2, z⟩ | q <;> rcases KQ_cases hv' with ⟨b1, b3, b2⟩ | ⟨b1, b2, z'⟩ | q'
  · rw [a2, b2, KQ_1 a1, KQ_1 b1] at e; exact ⟨hN _ _ a1 a3 b1 b3 e, a2.trans b2.symm⟩
  · rw [a2, b1, b2, KQ_1 a1, KQ_7] at e; exact absurd e.symm ((f2 z').2 _ a1 a3)
  · rw [a2, KQ_1 a1, KQ_old q' h6] at e; exact absurd e (f1 _ a1 a3 _ _ q')
  · rw [a1, a2, b2, KQ_1 b1, KQ_7] at e; exact absurd e ((f2 z).2 _ b1 b3)
  · exact ⟨a1.trans b1.symm, a2.trans b2.symm⟩
  · rw [a1, a2, KQ_7, KQ_old q' h6] at e; exact absurd e ((f2 z).1 _ _ q')
  · rw [b2, KQ_1 b1, KQ_old q h6] at e; exact absurd e.symm (f1 _ b1 b3 _ _ q)
  · rw [b1, b2, KQ_7, KQ_old q h6] at e; exact absurd e.symm ((f2 z').1 _ _ q)
  · rw [KQ_old q h6, KQ_old q' h6] at e; exact h _ _ _ _ q q' e
theorem RM.growQ (h : RM g K e0 S X μ) {q' : Nat → Int32} {S' : SS} (hS : S' = ((S.wq (fu S.q S.nQ q')).wc (upd S.c 3 (S.c 3 + 1))).wnQ (S.nQ + 1)) (hN : ∀ k k', 9 ≤ k → k < 13 → 9 ≤ k' → k' < 13 → N k = N k' → k = k') (f1 : ∀ k, 9 ≤ k → k < 13 → μ (N k) = none) (f2 : S.nQ = 0 → μ o2 = none ∧ ∀ k', 9 ≤ k' → k' < 13 → o2 ≠ N k') (h6 : 0 < S.nQ → o2 = K 7 0)
    (e1 : μ' (N 9) = some (eXq q' (N 10) (N 11) (N 12))) (e10 : μ' (N 10) = some (eI g 12 (S.F S.nQ))) (e11 : μ' (N 11) = some (eD g 12 (S.H S.nQ))) (e12 : μ' (N 12) = some (eD g 12 (S.V S.nQ))) (e2 : μ' o2 = some (eQ (g 5) 10 (va_up (fun q => if q < S.nQ then some (K 9 q) else none) S.nQ (some (N 9))))) (e3 : μ' (K 2 0) = some (eAl (nI (S.nQ + 1)) o2 (nI (S.nQ + 1)))) (kp : ∀ a x, μ a = some x → a ≠ K 2 0 → a ≠ o2 → μ' a = some x) :
    RM g (KQ K S.nQ N o2) e0 S' X μ' ∧ FrM K S.nA S.nQ μ μ' ∧ (∀ k i, vM S.nA (S.nQ + 1) k i → (vM S.nA S.nQ k i ∧ KQ K S.nQ N o2 k i = K k i) ∨ μ (KQ K S.nQ N o2 k i) = none) := by
  subst hS
  have q {k i : Nat} {x : va_E} (hx : μ (K k i) = some x) (hv : vM S.nA S.nQ k i) (h1 : k ≠ 2) (h6' : k ≠ 7) : μ' (K k i) = some x := kp _ _ hx (h.ki.ne hv (m0 (by decide)) (Or.inl h1)) (fun z => by
    rcases Nat.eq_zero_or_pos S.nQ with y | y
    · rw [z, (f2 y).1] at hx; cases hx
    · rw [h6 y] at z; exact absurd z (h.ki.ne hv (m7 y) (Or.inl h6')))
  have hq9 (k : Nat) (hk : 9 ≤ k ∧ k < 13) (f : Nat → va_E) (hnew : μ' (N k) = some (f S.nQ)) (hold : ∀ i, i < S.nQ → μ (K k i) = some (f i)) : ∀ i, i < S.nQ + 1 → μ' (KQ K S.nQ N o2 k i) = some (f i) := by
    intro i hi
    by_cases z : i = S.nQ
    · rw [z, KQ_1 hk.1]; exact hnew
    · have hi3 : i < S.nQ := by omega
      rw [KQ_old (nA := S.nA) (m9 hk hi3) h6]; exact q (hold i hi3) (m9 hk hi3) (by omega) (by omega)
  refine ⟨⟨KQ_ki h.ki hN (fun k' a b => h.nk (f1 k' a b)) (fun y => ⟨h.nk (f2 y).1, (f2 y).2⟩) h6, ?_, ?_, ?_, ?_, ?_, ?_, ?_, ?_, ?_, ?_, ?_, ?_, ?_⟩, ?_, ?_⟩
  · show μ' (K 0 0) = some (eMo (mF S X) (K 1 0) (K 2 0) (K 3 0) (K 4 0) (K 5 0) X.ne X.h X.v X.sm)
    exact q h.mo (m0 (by decide)) (by decide) (by decide)
  · show μ' (K 1 0) = some (eAl (nI S.nA) (if S.nA = 0 then e0 else K 6 0) (nI S.nA))
    exact q h.aL (m0 (by decide)) (by decide) (by decide)
  · show μ' (K 2 0) = some (eAl (nI (S.nQ + 1)) (if S.nQ + 1 = 0 then e0 else o2) (nI (S.nQ + 1)))
    rw [if_neg (by omega)]; exact e3
  · exact q h.pa (m0 (by decide)) (by decide) (by decide)
  · exact q h.po (m0 (by decide)) (by decide) (by decide)
  · exact q h.su (m0 (by decide)) (by decide) (by decide)
  · intro z
    exact q (h.aE z) (m6 z) (by decide) (by decide)
  · intro _
    show μ' o2 = some (eQ (g 5) 10 (fun q => if q < S.nQ + 1 then some (KQ K S.nQ N o2 9 q) else none))
    rw [e2]
    have e : va_up (fun q => if q < S.nQ then some (K 9 q) else none) S.nQ (some (N 9)) = fun q => if q < S.nQ + 1 then some (KQ K S.nQ N o2 9 q) else none := by
      funext q
      unfold va_up
      by_cases z : q = S.nQ
      · rw [if_pos z, if_pos (by omega), z, KQ_1 (by decide)]
      · rw [if_neg z]
        show (if q < S.nQ then some (K 9 q) else none) = _
        by_cases y : q < S.nQ
        · rw [if_pos y, if_pos (by omega), KQ_old (nA := S.nA) (m9 (by decide) y) h6]
        · rw [if_neg y, if_neg (by omega)]
    rw [e]
  · intro i hi; exact q (h.xa hi) (m8 hi) (by decide) (by decide)
  · intro i hi
    have hi2 : i < S.nQ + 1 := hi
    show μ' (KQ K S.nQ N o2 9 i) = some (eXq (fu S.q S.nQ q' i) (KQ K S.nQ N o2 10 i) (KQ K S.nQ N o2 11 i) (KQ K S.nQ N o2 12 i))
    by_cases z : i = S.nQ
    · rw [z, KQ_1 (by decide), KQ_1 (by decide), KQ_1 (by decide), KQ_1 (by decide), fu_s]; exact e1
    · have hi3 : i < S.nQ := by omega
      rw [KQ_old (nA := S.nA) (m9 (by decide) hi3) h6, KQ_old (nA := S.nA) (m9 (by decide) hi3) h6, KQ_old (nA := S.nA) (m9 (by decide) hi3) h6, KQ_old (nA := S.nA) (m9 (by decide) hi3) h6, fu_n z]; exact q (h.xq hi3) (m9 (by decide) hi3) (by decide) (by decide)
  · exact hq9 10 (by decide) (fun i => eI g 12 (S.F i)) e10 (fun i hi => h.wh hi)
  · exact hq9 11 (by decide) (fun i => eD g 12 (S.H i)) e11 (fun i hi => h.hh hi)
  · exact hq9 12 (by decide) (fun i => eD g 12 (S.V i)) e12 (fun i hi => h.vv hi)
  · intro a x ha hn
    refine kp a x ha (hn 2 0 (m0 (by decide))) (fun z => ?_)
    rcases Nat.eq_zero_or_pos S.nQ with y | y
    · rw [z, (f2 y).1] at ha; cases ha
    · exact hn 7 0 (m7 y) (z.trans (h6 y))
  · intro k i hv
    rcases KQ_cases hv with ⟨a1, a3, a2⟩ | ⟨a1, a2, z⟩ | z
    · exact Or.inr (by rw [a2, KQ_1 a1]; exact f1 k a1 a3)
    · exact Or.inr (by rw [a1, a2, KQ_7]; exact (f2 z).1)
    · exact Or.inl ⟨z, KQ_old z h6⟩
end GROWQ
abbrev KpB (μ μ' : mu) : Prop := ∀ (a : Nat) (e : va_E), μ a = some e → μ' a = some e
section GROWL
variable {g : Nat → ClassId} {K : Nat → Nat → Nat} {e0 : Nat} {S : SS} {X : XS} {μ μ' H : mu} {o1 o2 : Nat} {N : Nat → Nat}
theorem growA_F (h : RM g K e0 S X μ) (hcr : S.cr S.nA = 0) (hz : S.nA = 0) (f1 : μ o1 = none) {A1 : Nat → Int32} (hk : KpB μ H) (ho : H o1 = some (eXa A1 0)) (p1 : H o2 = none) (p3 : μ' o2 = some (eQ (g 5) 10 (va_up (fun _ => none) 0 (some o1)))) (p4 : μ' (K 1 0) = some (eAl (0 + 1) o2 1)) (p5 : ∀ x e, H x = some e → x ≠ K 1 0 → μ' x = some e) :
    RM g (KA K S.nA o1 o2) e0 (((S.wA (fu S.A S.nA A1)).wc (upd S.c 2 (S.c 2 + 1))).wnA (S.nA + 1)) X μ' ∧ FrM K S.nA S.nQ μ μ' ∧ (∀ k i, vM (S.nA + 1) S.nQ k i → (vM S.nA S.nQ k i ∧ KA K S.nA o1 o2 k i = K k i) ∨ μ (KA K S.nA o1 o2 k i) = none) := by
  have q1 : μ o2 = none := by
    cases e : μ o2 with
    | none => rfl
    | some x => rw [hk _ _ e] at p1; cases p1
  refine h.growA rfl f1 (fun _ => ⟨q1, nn_ne p1 ho |>.symm⟩) (fun q => absurd hz (by omega)) (by rw [hcr]; exact p5 _ _ ho (nn_ne f1 h.aL).symm) ?_ ?_ (fun a x ha h1 _ => p5 _ _ (hk _ _ ha) h1)
  · have e : (fun q => if q < S.nA then some (K 8 q) else none) = fun _ => none := by
      funext q
      exact if_neg (by omega)
    rw [p3, e, hz]
  · rw [p4, hz]; rfl
theorem growA_N (h : RM g K e0 S X μ) (hcr : S.cr S.nA = 0) (hz : 0 < S.nA) (f1 : μ o1 = none) {A1 : Nat → Int32} (hk : KpB μ H) (ho : H o1 = some (eXa A1 0)) (p2 : μ' (K 6 0) = some (eQ (g 5) 10 (va_up (fun q => if q < S.nA then some (K 8 q) else none) S.nA (some o1)))) (p3 : μ' (K 1 0) = some (eAl (nI S.nA + 1) (K 6 0) (nI (S.nA + 1)))) (p4 : ∀ x e, H x = some e → x ≠ K 1 0 → x ≠ K 6 0 → μ' x = some e) :
    RM g (KA K S.nA o1 (K 6 0)) e0 (((S.wA (fu S.A S.nA A1)).wc (upd S.c 2 (S.c 2 + 1))).wnA (S.nA + 1)) X μ' ∧ FrM K S.nA S.nQ μ μ' ∧ (∀ k i, vM (S.nA + 1) S.nQ k i → (vM S.nA S.nQ k i ∧ KA K S.nA o1 (K 6 0) k i = K k i) ∨ μ (KA K S.nA o1 (K 6 0) k i) = none) :=
  h.growA rfl f1 (fun q => absurd q (by omega)) (fun _ => rfl) (by rw [hcr]; exact p4 _ _ ho (nn_ne f1 h.aL).symm (nn_ne f1 (h.aE hz)).symm) p2 (by rw [p3, nI_1]) (fun a x ha h1 h2 => p4 _ _ (hk _ _ ha) h1 h2)
def N4 (a b c d : Nat) : Nat → Nat := fun k => if k = 9 then a else if k = 10 then b else if k = 11 then c else d
theorem N4_inj {a b c d : Nat} (h1 : a ≠ b) (h2 : a ≠ c) (h3 : a ≠ d) (h4 : b ≠ c) (h5 : b ≠ d) (h6 : c ≠ d) : ∀ k k', 9 ≤ k → k < 13 → 9 ≤ k' → k' < 13 → N4 a b c d k = N4 a b c d k' → k = k' := by
  intro k k' g1 g2 g3 g4 e
  rcases (show k = 9 ∨ k = 10 ∨ k = 11 ∨ k = 12 by omega) with rfl | rfl | rfl | rfl <;> rcases (show k' = 9 ∨ k' = 10 ∨ k' = 11 ∨ k' = 12 by omega) with rfl | rfl | rfl | rfl
  · rfl
  · exact absurd e h1
  · exact absurd e h2
  · exact absurd e h3
  · exact absurd e.symm h1
  · rfl
  · exact absurd e h4
  · exact absurd e h5
  · exact absurd e.symm h2
  · exact absurd e.symm h4
  · rfl
  · exact absurd e h6
  · exact absurd e.symm h3
  · exact absurd e.symm h5
  · exact absurd e.symm h6
  · rfl
theorem N4_all {a b c d : Nat} {P : Nat → Prop} (h1 : P a) (h2 : P b) (h3 : P c) (h4 : P d) (k : Nat) : P (N4 a b c d k) := by
  unfold N4
  split
  · exact h1
  · split
    · exact h2
    · split
      · exact h3
      · exact h4
theorem growQ_F {a b c d : Nat} (h : RM g K e0 S X μ) (hF : S.F S.nQ = (fun _ => 0) ∧ S.H S.nQ = (fun _ => 0) ∧ S.V S.nQ = (fun _ => 0)) (hz : S.nQ = 0) (fa : μ a = none) (fb : μ b = none) (fc : μ c = none) (fd : μ d = none) (hcd : c ≠ d) {q1 : Nat → Int32} (hk : KpB μ H) (ho : H a = some (eXq q1 b c d)) (hb : H b = some (eI g 12 (fun _ => 0))) (hc : H c = some (eD g 12 (fun _ => 0))) (hd : H d = some (eD g 12 (fun _ => 0))) (p1 : H o2 = none) (p3 : μ' o2 = some (eQ (g 5) 10 (va_up (fun _ => none) 0 (some a)))) (p4 : μ' (K 2 0) = some (eAl (0 + 1) o2 1)) (p5 : ∀ x e, H x = some e → x ≠ K 2 0 → μ' x = some e) :
    RM g (KQ K S.nQ (N4 a b c d) o2) e0 (((S.wq (fu S.q S.nQ q1)).wc (upd S.c 3 (S.c 3 + 1))).wnQ (S.nQ + 1)) X μ' ∧ FrM K S.nA S.nQ μ μ' ∧ (∀ k i, vM S.nA (S.nQ + 1) k i → (vM S.nA S.nQ k i ∧ KQ K S.nQ (N4 a b c d) o2 k i = K k i) ∨ μ (KQ K S.nQ (N4 a b c d) o2 k i) = none) := by
  have r1 : μ o2 = none := by
    cases e : μ o2 with
    | none => rfl
    | some x => rw [hk _ _ e] at p1; cases p1
  have hn {o : Nat} (f : μ o = none) : o ≠ K 2 0 := (nn_ne f h.qL).symm
  refine h.growQ rfl (N4_inj (tag_ne ho hb rfl) (tag_ne ho hc rfl) (tag_ne ho hd rfl) (tag_ne hb hc rfl) (tag_ne hb hd rfl) hcd) (fun k _ _ => N4_all (P := fun o => μ o = none) fa fb fc fd k) (fun _ => ⟨r1, fun k _ _ => N4_all (P := fun o => o2 ≠ o) (nn_ne p1 ho).symm (nn_ne p1 hb).symm (nn_ne p1 hc).symm (nn_ne p1 hd).symm k⟩) (fun q => absurd hz (by omega)) (p5 _ _ ho (hn fa)) (by rw [hF.1]; exact p5 _ _ hb (hn fb)) (by rw [hF.2.1]; exact p5 _ _ hc (hn fc)) (by rw [hF.2.2]; exact p5 _ _ hd (hn fd)) ?_ ?_ (fun a x ha h1 _ => p5 _ _ (hk _ _ ha) h1)
  · have e : (fun q => if q < S.nQ then some (K 9 q) else none) = fun _ => none := by
      funext q
      exact if_neg (by omega)
    rw [p3, e, hz]; rfl
  · rw [p4, hz]; rfl
theorem growQ_N {a b c d : Nat} (h : RM g K e0 S X μ) (hF : S.F S.nQ = (fun _ => 0) ∧ S.H S.nQ = (fun _ => 0) ∧ S.V S.nQ = (fun _ => 0)) (hz : 0 < S.nQ) (fa : μ a = none) (fb : μ b = none) (fc : μ c = none) (fd : μ d = none) (hcd : c ≠ d) {q1 : Nat → Int32} (hk : KpB μ H) (ho : H a = some (eXq q1 b c d)) (hb : H b = some (eI g 12 (fun _ => 0))) (hc : H c = some (eD g 12 (fun _ => 0))) (hd : H d = some (eD g 12 (fun _ => 0))) (p2 : μ' (K 7 0) = some (eQ (g 5) 10 (va_up (fun q => if q < S.nQ then some (K 9 q) else none) S.nQ (some a)))) (p3 : μ' (K 2 0) = some (eAl (nI S.nQ + 1) (K 7 0) (nI (S.nQ + 1)))) (p4 : ∀ x e, H x = some e → x ≠ K 2 0 → x ≠ K 7 0 → μ' x = some e) :
    RM g (KQ K S.nQ (N4 a b c d) (K 7 0)) e0 (((S.wq (fu S.q S.nQ q1)).wc (upd S.c 3 (S.c 3 + 1))).wnQ (S.nQ + 1)) X μ' ∧ FrM K S.nA S.nQ μ μ' ∧ (∀ k i, vM S.nA (S.nQ + 1) k i → (vM S.nA S.nQ k i ∧ KQ K S.nQ (N4 a b c d) (K 7 0) k i = K k i) ∨ μ (KQ K S.nQ (N4 a b c d) (K 7 0) k i) = none) := by
  have hn {o : Nat} (f : μ o = none) : o ≠ K 2 0 := (nn_ne f h.qL).symm
  have hn7 {o : Nat} (f : μ o = none) : o ≠ K 7 0 := (nn_ne f (h.qE hz)).symm
  exact h.growQ rfl (N4_inj (tag_ne ho hb rfl) (tag_ne ho hc rfl) (tag_ne ho hd rfl) (tag_ne hb hc rfl) (tag_ne hb hd rfl) hcd) (fun k _ _ => N4_all (P := fun o => μ o = none) fa fb fc fd k) (fun q => absurd q (by omega)) (fun _ => rfl) (p4 _ _ ho (hn fa) (hn7 fa)) (by rw [hF.1]; exact p4 _ _ hb (hn fb) (hn7 fb)) (by rw [hF.2.1]; exact p4 _ _ hc (hn fc) (hn7 fc)) (by rw [hF.2.2]; exact p4 _ _ hd (hn fd) (hn7 fd)) p2 (by rw [p3, nI_1]) (fun a x ha h1 h2 => p4 _ _ (hk _ _ ha) h1 h2)
theorem FrM.fr {nA nQ : Nat} (h : FrM K nA nQ μ μ') {o : Nat} (hn : ∀ k i, vM nA nQ k i → o ≠ K k i) (ho : μ' o = none) : μ o = none := by
  cases e : μ o with
  | none => rfl
  | some x => rw [h _ _ e hn] at ho; cases ho
/-- what is new, is new against the start -/
abbrev GrN (K K' : Nat → Nat → Nat) (nA nQ nA' nQ' : Nat) (μ : mu) : Prop := ∀ k i, vM nA' nQ' k i → (vM nA nQ k i ∧ K' k i = K k i) ∨ μ (K' k i) = none
theorem GrN.back {K' : Nat → Nat → Nat} {nA' nQ' : Nat} {μ0 : mu} (h : GrN K K' S.nA S.nQ nA' nQ' μ) (hM : RM g K e0 S X μ) (hF : FrM K S.nA S.nQ μ0 μ) : GrN K K' S.nA S.nQ nA' nQ' μ0 := fun k i hv => (h k i hv).imp_right (fun f => hF.fr (hM.nk f) f)
theorem GrN.rf {nA nQ : Nat} {μ0 : mu} : GrN K K nA nQ nA nQ μ0 := fun _ _ hv => Or.inl ⟨hv, rfl⟩
end GROWL
/-- .. with new cells of its own -/
abbrev PMk (g : Nat → ClassId) (K : Nat → Nat → Nat) (e0 : Nat) (S S' : SS) (cd b : Nat) (μ μ' : mu) : Prop := ∃ K' : Nat → Nat → Nat, K' 0 0 = K 0 0 ∧ RMX g K' e0 (if cd = 0 then S' else S) (nI cd) b μ' ∧ FrM K S.nA S.nQ μ μ' ∧ GrN K K' S.nA S.nQ (if cd = 0 then S' else S).nA (if cd = 0 then S' else S).nQ μ
