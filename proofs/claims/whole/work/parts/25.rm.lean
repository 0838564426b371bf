/-! ===== the reference's cells ===== -/
/-- what the reference bears beside the state: what was thrown, its count of turns, whether last arrows decide, the nearest, the latest flight, the sum, the match's pairs -/
abbrev XS : Type := Int32 × Nat × Int32 × UInt64 × UInt64 × UInt64 × Int64 × (Nat → Int32) × (Nat → Int32) × (Nat → Int32)
abbrev XS.th (X : XS) : Int32 := X.1
abbrev XS.T (X : XS) : Nat := X.2.1
abbrev XS.il (X : XS) : Int32 := X.2.2.1
abbrev XS.ne (X : XS) : UInt64 := X.2.2.2.1
abbrev XS.h (X : XS) : UInt64 := X.2.2.2.2.1
abbrev XS.v (X : XS) : UInt64 := X.2.2.2.2.2.1
abbrev XS.sm (X : XS) : Int64 := X.2.2.2.2.2.2.1
abbrev XS.pa (X : XS) : Nat → Int32 := X.2.2.2.2.2.2.2.1
abbrev XS.po (X : XS) : Nat → Int32 := X.2.2.2.2.2.2.2.2.1
abbrev XS.su (X : XS) : Nat → Int32 := X.2.2.2.2.2.2.2.2.2
abbrev XS.wth (X : XS) (x : Int32) : XS := (x, X.T, X.il, X.ne, X.h, X.v, X.sm, X.pa, X.po, X.su)
abbrev XS.wT (X : XS) (x : Nat) : XS := (X.th, x, X.il, X.ne, X.h, X.v, X.sm, X.pa, X.po, X.su)
abbrev XS.wil (X : XS) (x : Int32) : XS := (X.th, X.T, x, X.ne, X.h, X.v, X.sm, X.pa, X.po, X.su)
abbrev XS.wne (X : XS) (x : UInt64) : XS := (X.th, X.T, X.il, x, X.h, X.v, X.sm, X.pa, X.po, X.su)
abbrev XS.wh (X : XS) (x : UInt64) : XS := (X.th, X.T, X.il, X.ne, x, X.v, X.sm, X.pa, X.po, X.su)
abbrev XS.wv (X : XS) (x : UInt64) : XS := (X.th, X.T, X.il, X.ne, X.h, x, X.sm, X.pa, X.po, X.su)
abbrev XS.wsm (X : XS) (x : Int64) : XS := (X.th, X.T, X.il, X.ne, X.h, X.v, x, X.pa, X.po, X.su)
abbrev XS.wpa (X : XS) (x : Nat → Int32) : XS := (X.th, X.T, X.il, X.ne, X.h, X.v, X.sm, x, X.po, X.su)
abbrev XS.wpo (X : XS) (x : Nat → Int32) : XS := (X.th, X.T, X.il, X.ne, X.h, X.v, X.sm, X.pa, x, X.su)
abbrev XS.wsu (X : XS) (x : Nat → Int32) : XS := (X.th, X.T, X.il, X.ne, X.h, X.v, X.sm, X.pa, X.po, x)
def mF (S : SS) (X : XS) : Nat → Int32 := fun k => if k = 0 then X.th else if k = 3 then S.c 4 else if k = 4 then S.c 5 else if k = 5 then S.c 6 else if k = 6 then S.c 9 else if k = 7 then S.c 10 else if k = 8 then S.c 8 else if k = 9 then S.c 13 else if k = 10 then S.c 7 else if k = 11 then S.c 11 else if k = 12 then S.c 14 else if k = 17 then nI X.T else if k = 18 then X.il else 0
def vM (nA nQ k i : Nat) : Prop := (k < 6 ∧ i = 0) ∨ (k = 6 ∧ i = 0 ∧ 0 < nA) ∨ (k = 7 ∧ i = 0 ∧ 0 < nQ) ∨ (k = 8 ∧ i < nA) ∨ (9 ≤ k ∧ k < 13 ∧ i < nQ)
def KI (K : Nat → Nat → Nat) (nA nQ : Nat) : Prop := ∀ k i k' i', vM nA nQ k i → vM nA nQ k' i' → K k i = K k' i' → k = k' ∧ i = i'
theorem KI.ne {K : Nat → Nat → Nat} {nA nQ : Nat} (h : KI K nA nQ) {k i k' i' : Nat} (hv : vM nA nQ k i) (hv' : vM nA nQ k' i') (hne : k ≠ k' ∨ i ≠ i') : K k i ≠ K k' i' := fun e => by
  obtain ⟨a, b⟩ := h k i k' i' hv hv' e
  rcases hne with q | q
  · exact q a
  · exact q b
theorem m0 {nA nQ k : Nat} (h : k < 6) : vM nA nQ k 0 := Or.inl ⟨h, rfl⟩
theorem m6 {nA nQ : Nat} (h : 0 < nA) : vM nA nQ 6 0 := Or.inr (Or.inl ⟨rfl, rfl, h⟩)
theorem m7 {nA nQ : Nat} (h : 0 < nQ) : vM nA nQ 7 0 := Or.inr (Or.inr (Or.inl ⟨rfl, rfl, h⟩))
theorem m8 {nA nQ i : Nat} (h : i < nA) : vM nA nQ 8 i := Or.inr (Or.inr (Or.inr (Or.inl ⟨rfl, h⟩)))
theorem m9 {nA nQ k i : Nat} (hk : 9 ≤ k ∧ k < 13) (h : i < nQ) : vM nA nQ k i := Or.inr (Or.inr (Or.inr (Or.inr ⟨hk.1, hk.2, h⟩)))
def RM (g : Nat → ClassId) (K : Nat → Nat → Nat) (e0 : Nat) (S : SS) (X : XS) (μ : mu) : Prop :=
  KI K S.nA S.nQ ∧ μ (K 0 0) = some (eMo (mF S X) (K 1 0) (K 2 0) (K 3 0) (K 4 0) (K 5 0) X.ne X.h X.v X.sm) ∧
  μ (K 1 0) = some (eAl (nI S.nA) (if S.nA = 0 then e0 else K 6 0) (nI S.nA)) ∧ μ (K 2 0) = some (eAl (nI S.nQ) (if S.nQ = 0 then e0 else K 7 0) (nI S.nQ)) ∧
  μ (K 3 0) = some (eI g 2 X.pa) ∧ μ (K 4 0) = some (eI g 2 X.po) ∧ μ (K 5 0) = some (eI g 2 X.su) ∧
  (0 < S.nA → μ (K 6 0) = some (eQ (g 5) 10 (fun q => if q < S.nA then some (K 8 q) else none))) ∧ (0 < S.nQ → μ (K 7 0) = some (eQ (g 5) 10 (fun q => if q < S.nQ then some (K 9 q) else none))) ∧
  (∀ i, i < S.nA → μ (K 8 i) = some (eXa (S.A i) (S.cr i))) ∧ (∀ i, i < S.nQ → μ (K 9 i) = some (eXq (S.q i) (K 10 i) (K 11 i) (K 12 i))) ∧
  (∀ i, i < S.nQ → μ (K 10 i) = some (eI g 12 (S.F i))) ∧ (∀ i, i < S.nQ → μ (K 11 i) = some (eD g 12 (S.H i))) ∧ (∀ i, i < S.nQ → μ (K 12 i) = some (eD g 12 (S.V i)))
/-- what a method of the reference leaves alone -/
def FrM (K : Nat → Nat → Nat) (nA nQ : Nat) (μ μ' : mu) : Prop := ∀ (a : Nat) (e : va_E), μ a = some e → (∀ k i, vM nA nQ k i → a ≠ K k i) → μ' a = some e
theorem FrM.rf {K : Nat → Nat → Nat} {nA nQ : Nat} {μ : mu} : FrM K nA nQ μ μ := fun _ _ h _ => h
theorem FrM.tr {K : Nat → Nat → Nat} {nA nQ : Nat} {μ μ' μ'' : mu} (h : FrM K nA nQ μ μ') (h' : FrM K nA nQ μ' μ'') : FrM K nA nQ μ μ'' := fun a e ha hn => h' a e (h a e ha hn) hn
theorem FrM.mpw {K : Nat → Nat → Nat} {nA nQ : Nat} {μ μ' : mu} (h : FrM K nA nQ μ μ') {k i : Nat} {e : va_E} (hv : vM nA nQ k i) : FrM K nA nQ μ (mp μ' (K k i) e) := h.tr fun a x ha hn => mp_k ha (hn k i hv)
theorem FrM.nw {K : Nat → Nat → Nat} {nA nQ : Nat} {μ μ' : mu} (h : FrM K nA nQ μ μ') {o : Nat} {e : va_E} (ho : μ' o = none) : FrM K nA nQ μ (mp μ' o e) := h.tr fun a x ha hn => mp_k ha (nn_ne ho ha)
section RMS
variable {g : Nat → ClassId} {K : Nat → Nat → Nat} {e0 : Nat} {S : SS} {X : XS} {μ : mu}
theorem RM.ki (h : RM g K e0 S X μ) : KI K S.nA S.nQ := h.1
theorem RM.mo (h : RM g K e0 S X μ) : μ (K 0 0) = some (eMo (mF S X) (K 1 0) (K 2 0) (K 3 0) (K 4 0) (K 5 0) X.ne X.h X.v X.sm) := h.2.1
theorem RM.aL (h : RM g K e0 S X μ) : μ (K 1 0) = some (eAl (nI S.nA) (if S.nA = 0 then e0 else K 6 0) (nI S.nA)) := h.2.2.1
theorem RM.qL (h : RM g K e0 S X μ) : μ (K 2 0) = some (eAl (nI S.nQ) (if S.nQ = 0 then e0 else K 7 0) (nI S.nQ)) := h.2.2.2.1
theorem RM.pa (h : RM g K e0 S X μ) : μ (K 3 0) = some (eI g 2 X.pa) := h.2.2.2.2.1
theorem RM.po (h : RM g K e0 S X μ) : μ (K 4 0) = some (eI g 2 X.po) := h.2.2.2.2.2.1
theorem RM.su (h : RM g K e0 S X μ) : μ (K 5 0) = some (eI g 2 X.su) := h.2.2.2.2.2.2.1
theorem RM.aE (h : RM g K e0 S X μ) (hz : 0 < S.nA) : μ (K 6 0) = some (eQ (g 5) 10 (fun q => if q < S.nA then some (K 8 q) else none)) := h.2.2.2.2.2.2.2.1 hz
theorem RM.qE (h : RM g K e0 S X μ) (hz : 0 < S.nQ) : μ (K 7 0) = some (eQ (g 5) 10 (fun q => if q < S.nQ then some (K 9 q) else none)) := h.2.2.2.2.2.2.2.2.1 hz
theorem RM.xa (h : RM g K e0 S X μ) {i : Nat} (hi : i < S.nA) : μ (K 8 i) = some (eXa (S.A i) (S.cr i)) := h.2.2.2.2.2.2.2.2.2.1 i hi
theorem RM.xq (h : RM g K e0 S X μ) {i : Nat} (hi : i < S.nQ) : μ (K 9 i) = some (eXq (S.q i) (K 10 i) (K 11 i) (K 12 i)) := h.2.2.2.2.2.2.2.2.2.2.1 i hi
theorem RM.wh (h : RM g K e0 S X μ) {i : Nat} (hi : i < S.nQ) : μ (K 10 i) = some (eI g 12 (S.F i)) := h.2.2.2.2.2.2.2.2.2.2.2.1 i hi
theorem RM.hh (h : RM g K e0 S X μ) {i : Nat} (hi : i < S.nQ) : μ (K 11 i) = some (eD g 12 (S.H i)) := h.2.2.2.2.2.2.2.2.2.2.2.2.1 i hi
theorem RM.vv (h : RM g K e0 S X μ) {i : Nat} (hi : i < S.nQ) : μ (K 12 i) = some (eD g 12 (S.V i)) := h.2.2.2.2.2.2.2.2.2.2.2.2.2 i hi
theorem RM.put (h : RM g K e0 S X μ) {k i : Nat} (hv : vM S.nA S.nQ k i) (e : va_E) {k' i' : Nat} {x : va_E} (hv' : vM S.nA S.nQ k' i') (hx : μ (K k' i') = some x) (hne : k' ≠ k ∨ i' ≠ i) : mp μ (K k i) e (K k' i') = some x := mp_k hx (h.ki.ne hv' hv hne)
theorem RM.setMo (h : RM g K e0 S X μ) (c' : Nat → Int32) (X' : XS) (hpa : X'.pa = X.pa) (hpo : X'.po = X.po) (hsu : X'.su = X.su) : RM g K e0 (S.wc c') (X') (mp μ (K 0 0) (eMo (mF (S.wc c') X') (K 1 0) (K 2 0) (K 3 0) (K 4 0) (K 5 0) X'.ne X'.h X'.v X'.sm)) :=
  have p := fun {k' i'} {z} => h.put (m0 (by decide)) (eMo (mF (S.wc c') X') (K 1 0) (K 2 0) (K 3 0) (K 4 0) (K 5 0) X'.ne X'.h X'.v X'.sm) (k' := k') (i' := i') (x := z)
  ⟨h.ki, mp_s, p (m0 (by decide)) h.aL (Or.inl (by decide)), p (m0 (by decide)) h.qL (Or.inl (by decide)), by show mp μ _ _ _ = some (eI g 2 X'.pa); rw [hpa]; exact p (m0 (by decide)) h.pa (Or.inl (by decide)), by show mp μ _ _ _ = some (eI g 2 X'.po); rw [hpo]; exact p (m0 (by decide)) h.po (Or.inl (by decide)), by show mp μ _ _ _ = some (eI g 2 X'.su); rw [hsu]; exact p (m0 (by decide)) h.su (Or.inl (by decide)), fun hz => p (m6 hz) (h.aE hz) (Or.inl (by decide)), fun hz => p (m7 hz) (h.qE hz) (Or.inl (by decide)), fun j hj => p (m8 hj) (h.xa hj) (Or.inl (by decide)), fun j hj => p (m9 (by decide) hj) (h.xq hj) (Or.inl (by decide)), fun j hj => p (m9 (by decide) hj) (h.wh hj) (Or.inl (by decide)), fun j hj => p (m9 (by decide) hj) (h.hh hj) (Or.inl (by decide)), fun j hj => p (m9 (by decide) hj) (h.vv hj) (Or.inl (by decide))⟩
theorem RM.setPa (h : RM g K e0 S X μ) (f : Nat → Int32) : RM g K e0 (S) (X.wpa f) (mp μ (K 3 0) (eI g 2 f)) :=
  have p := fun {k' i'} {z} => h.put (m0 (by decide)) (eI g 2 f) (k' := k') (i' := i') (x := z)
  ⟨h.ki, p (m0 (by decide)) h.mo (Or.inl (by decide)), p (m0 (by decide)) h.aL (Or.inl (by decide)), p (m0 (by decide)) h.qL (Or.inl (by decide)), mp_s, p (m0 (by decide)) h.po (Or.inl (by decide)), p (m0 (by decide)) h.su (Or.inl (by decide)), fun hz => p (m6 hz) (h.aE hz) (Or.inl (by decide)), fun hz => p (m7 hz) (h.qE hz) (Or.inl (by decide)), fun j hj => p (m8 hj) (h.xa hj) (Or.inl (by decide)), fun j hj => p (m9 (by decide) hj) (h.xq hj) (Or.inl (by decide)), fun j hj => p (m9 (by decide) hj) (h.wh hj) (Or.inl (by decide)), fun j hj => p (m9 (by decide) hj) (h.hh hj) (Or.inl (by decide)), fun j hj => p (m9 (by decide) hj) (h.vv hj) (Or.inl (by decide))⟩
theorem RM.setPo (h : RM g K e0 S X μ) (f : Nat → Int32) : RM g K e0 (S) (X.wpo f) (mp μ (K 4 0) (eI g 2 f)) :=
  have p := fun {k' i'} {z} => h.put (m0 (by decide)) (eI g 2 f) (k' := k') (i' := i') (x := z)
  ⟨h.ki, p (m0 (by decide)) h.mo (Or.inl (by decide)), p (m0 (by decide)) h.aL (Or.inl (by decide)), p (m0 (by decide)) h.qL (Or.inl (by decide)), p (m0 (by decide)) h.pa (Or.inl (by decide)), mp_s, p (m0 (by decide)) h.su (Or.inl (by decide)), fun hz => p (m6 hz) (h.aE hz) (Or.inl (by decide)), fun hz => p (m7 hz) (h.qE hz) (Or.inl (by decide)), fun j hj => p (m8 hj) (h.xa hj) (Or.inl (by decide)), fun j hj => p (m9 (by decide) hj) (h.xq hj) (Or.inl (by decide)), fun j hj => p (m9 (by decide) hj) (h.wh hj) (Or.inl (by decide)), fun j hj => p (m9 (by decide) hj) (h.hh hj) (Or.inl (by decide)), fun j hj => p (m9 (by decide) hj) (h.vv hj) (Or.inl (by decide))⟩
theorem RM.setSu (h : RM g K e0 S X μ) (f : Nat → Int32) : RM g K e0 (S) (X.wsu f) (mp μ (K 5 0) (eI g 2 f)) :=
  have p := fun {k' i'} {z} => h.put (m0 (by decide)) (eI g 2 f) (k' := k') (i' := i') (x := z)
  ⟨h.ki, p (m0 (by decide)) h.mo (Or.inl (by decide)), p (m0 (by decide)) h.aL (Or.inl (by decide)), p (m0 (by decide)) h.qL (Or.inl (by decide)), p (m0 (by decide)) h.pa (Or.inl (by decide)), p (m0 (by decide)) h.po (Or.inl (by decide)), mp_s, fun hz => p (m6 hz) (h.aE hz) (Or.inl (by decide)), fun hz => p (m7 hz) (h.qE hz) (Or.inl (by decide)), fun j hj => p (m8 hj) (h.xa hj) (Or.inl (by decide)), fun j hj => p (m9 (by decide) hj) (h.xq hj) (Or.inl (by decide)), fun j hj => p (m9 (by decide) hj) (h.wh hj) (Or.inl (by decide)), fun j hj => p (m9 (by decide) hj) (h.hh hj) (Or.inl (by decide)), fun j hj => p (m9 (by decide) hj) (h.vv hj) (Or.inl (by decide))⟩
theorem RM.setXa (h : RM g K e0 S X μ) {i : Nat} (hi : i < S.nA) (x : Nat → Int32) (y : UInt32) : RM g K e0 ((S.wA (fu S.A i x)).wcr (fu S.cr i y)) (X) (mp μ (K 8 i) (eXa x y)) :=
  have p := fun {k' i'} {z} => h.put (m8 hi) (eXa x y) (k' := k') (i' := i') (x := z)
  ⟨h.ki, p (m0 (by decide)) h.mo (Or.inl (by decide)), p (m0 (by decide)) h.aL (Or.inl (by decide)), p (m0 (by decide)) h.qL (Or.inl (by decide)), p (m0 (by decide)) h.pa (Or.inl (by decide)), p (m0 (by decide)) h.po (Or.inl (by decide)), p (m0 (by decide)) h.su (Or.inl (by decide)), fun hz => p (m6 hz) (h.aE hz) (Or.inl (by decide)), fun hz => p (m7 hz) (h.qE hz) (Or.inl (by decide)), fun j hj => by
    show mp μ (K 8 i) _ (K 8 j) = some (eXa (fu S.A i x j) (fu S.cr i y j))
    by_cases e : j = i
    · rw [e, fu_s, fu_s]; exact mp_s
    · rw [fu_n e, fu_n e]; exact p (m8 hj) (h.xa hj) (Or.inr e), fun j hj => p (m9 (by decide) hj) (h.xq hj) (Or.inl (by decide)), fun j hj => p (m9 (by decide) hj) (h.wh hj) (Or.inl (by decide)), fun j hj => p (m9 (by decide) hj) (h.hh hj) (Or.inl (by decide)), fun j hj => p (m9 (by decide) hj) (h.vv hj) (Or.inl (by decide))⟩
theorem RM.setXq (h : RM g K e0 S X μ) {i : Nat} (hi : i < S.nQ) (x : Nat → Int32) : RM g K e0 (S.wq (fu S.q i x)) (X) (mp μ (K 9 i) (eXq x (K 10 i) (K 11 i) (K 12 i))) :=
  have p := fun {k' i'} {z} => h.put (m9 (by decide) hi) (eXq x (K 10 i) (K 11 i) (K 12 i)) (k' := k') (i' := i') (x := z)
  ⟨h.ki, p (m0 (by decide)) h.mo (Or.inl (by decide)), p (m0 (by decide)) h.aL (Or.inl (by decide)), p (m0 (by decide)) h.qL (Or.inl (by decide)), p (m0 (by decide)) h.pa (Or.inl (by decide)), p (m0 (by decide)) h.po (Or.inl (by decide)), p (m0 (by decide)) h.su (Or.inl (by decide)), fun hz => p (m6 hz) (h.aE hz) (Or.inl (by decide)), fun hz => p (m7 hz) (h.qE hz) (Or.inl (by decide)), fun j hj => p (m8 hj) (h.xa hj) (Or.inl (by decide)), fun j hj => by
    show mp μ (K 9 i) _ (K 9 j) = some (eXq (fu S.q i x j) (K 10 j) (K 11 j) (K 12 j))
    by_cases e : j = i
    · rw [e, fu_s]; exact mp_s
    · rw [fu_n e]; exact p (m9 (by decide) hj) (h.xq hj) (Or.inr e), fun j hj => p (m9 (by decide) hj) (h.wh hj) (Or.inl (by decide)), fun j hj => p (m9 (by decide) hj) (h.hh hj) (Or.inl (by decide)), fun j hj => p (m9 (by decide) hj) (h.vv hj) (Or.inl (by decide))⟩
theorem RM.setWh (h : RM g K e0 S X μ) {i : Nat} (hi : i < S.nQ) (x : Nat → Int32) : RM g K e0 (S.wF (fu S.F i x)) (X) (mp μ (K 10 i) (eI g 12 x)) :=
  have p := fun {k' i'} {z} => h.put (m9 (by decide) hi) (eI g 12 x) (k' := k') (i' := i') (x := z)
  ⟨h.ki, p (m0 (by decide)) h.mo (Or.inl (by decide)), p (m0 (by decide)) h.aL (Or.inl (by decide)), p (m0 (by decide)) h.qL (Or.inl (by decide)), p (m0 (by decide)) h.pa (Or.inl (by decide)), p (m0 (by decide)) h.po (Or.inl (by decide)), p (m0 (by decide)) h.su (Or.inl (by decide)), fun hz => p (m6 hz) (h.aE hz) (Or.inl (by decide)), fun hz => p (m7 hz) (h.qE hz) (Or.inl (by decide)), fun j hj => p (m8 hj) (h.xa hj) (Or.inl (by decide)), fun j hj => p (m9 (by decide) hj) (h.xq hj) (Or.inl (by decide)), fun j hj => by
    show mp μ (K 10 i) _ (K 10 j) = some (eI g 12 (fu S.F i x j))
    by_cases e : j = i
    · rw [e, fu_s]; exact mp_s
    · rw [fu_n e]; exact p (m9 (by decide) hj) (h.wh hj) (Or.inr e), fun j hj => p (m9 (by decide) hj) (h.hh hj) (Or.inl (by decide)), fun j hj => p (m9 (by decide) hj) (h.vv hj) (Or.inl (by decide))⟩
theorem RM.setHh (h : RM g K e0 S X μ) {i : Nat} (hi : i < S.nQ) (x : Nat → UInt64) : RM g K e0 (S.wH (fu S.H i x)) (X) (mp μ (K 11 i) (eD g 12 x)) :=
  have p := fun {k' i'} {z} => h.put (m9 (by decide) hi) (eD g 12 x) (k' := k') (i' := i') (x := z)
  ⟨h.ki, p (m0 (by decide)) h.mo (Or.inl (by decide)), p (m0 (by decide)) h.aL (Or.inl (by decide)), p (m0 (by decide)) h.qL (Or.inl (by decide)), p (m0 (by decide)) h.pa (Or.inl (by decide)), p (m0 (by decide)) h.po (Or.inl (by decide)), p (m0 (by decide)) h.su (Or.inl (by decide)), fun hz => p (m6 hz) (h.aE hz) (Or.inl (by decide)), fun hz => p (m7 hz) (h.qE hz) (Or.inl (by decide)), fun j hj => p (m8 hj) (h.xa hj) (Or.inl (by decide)), fun j hj => p (m9 (by decide) hj) (h.xq hj) (Or.inl (by decide)), fun j hj => p (m9 (by decide) hj) (h.wh hj) (Or.inl (by decide)), fun j hj => by
    show mp μ (K 11 i) _ (K 11 j) = some (eD g 12 (fu S.H i x j))
    by_cases e : j = i
    · rw [e, fu_s]; exact mp_s
    · rw [fu_n e]; exact p (m9 (by decide) hj) (h.hh hj) (Or.inr e), fun j hj => p (m9 (by decide) hj) (h.vv hj) (Or.inl (by decide))⟩
theorem RM.setVv (h : RM g K e0 S X μ) {i : Nat} (hi : i < S.nQ) (x : Nat → UInt64) : RM g K e0 (S.wV (fu S.V i x)) (X) (mp μ (K 12 i) (eD g 12 x)) :=
  have p := fun {k' i'} {z} => h.put (m9 (by decide) hi) (eD g 12 x) (k' := k') (i' := i') (x := z)
  ⟨h.ki, p (m0 (by decide)) h.mo (Or.inl (by decide)), p (m0 (by decide)) h.aL (Or.inl (by decide)), p (m0 (by decide)) h.qL (Or.inl (by decide)), p (m0 (by decide)) h.pa (Or.inl (by decide)), p (m0 (by decide)) h.po (Or.inl (by decide)), p (m0 (by decide)) h.su (Or.inl (by decide)), fun hz => p (m6 hz) (h.aE hz) (Or.inl (by decide)), fun hz => p (m7 hz) (h.qE hz) (Or.inl (by decide)), fun j hj => p (m8 hj) (h.xa hj) (Or.inl (by decide)), fun j hj => p (m9 (by decide) hj) (h.xq hj) (Or.inl (by decide)), fun j hj => p (m9 (by decide) hj) (h.wh hj) (Or.inl (by decide)), fun j hj => p (m9 (by decide) hj) (h.hh hj) (Or.inl (by decide)), fun j hj => by
    show mp μ (K 12 i) _ (K 12 j) = some (eD g 12 (fu S.V i x j))
    by_cases e : j = i
    · rw [e, fu_s]; exact mp_s
    · rw [fu_n e]; exact p (m9 (by decide) hj) (h.vv hj) (Or.inr e)⟩
theorem RM.setXA (h : RM g K e0 S X μ) {i : Nat} (hi : i < S.nA) (x : Nat → Int32) : RM g K e0 (S.wA (fu S.A i x)) X (mp μ (K 8 i) (eXa x (S.cr i))) := by
  have h2 := h.setXa hi x (S.cr i)
  rw [fu_id] at h2
  exact h2
theorem RM.setXc (h : RM g K e0 S X μ) {i : Nat} (hi : i < S.nA) (y : UInt32) : RM g K e0 (S.wcr (fu S.cr i y)) X (mp μ (K 8 i) (eXa (S.A i) y)) := by
  have h2 := h.setXa hi (S.A i) y
  rw [fu_id] at h2
  exact h2
/-- the main cell's own, the state as it stands -/
theorem RM.setX (h : RM g K e0 S X μ) (X' : XS) (hpa : X'.pa = X.pa) (hpo : X'.po = X.po) (hsu : X'.su = X.su) : RM g K e0 S X' (mp μ (K 0 0) (eMo (mF S X') (K 1 0) (K 2 0) (K 3 0) (K 4 0) (K 5 0) X'.ne X'.h X'.v X'.sm)) := h.setMo S.c X' hpa hpo hsu
/-- new cells beside it -/
theorem RM.keep (h : RM g K e0 S X μ) {μ' : mu} (hk : ∀ a e, μ a = some e → μ' a = some e) : RM g K e0 S X μ' :=
  ⟨h.ki, hk _ _ h.mo, hk _ _ h.aL, hk _ _ h.qL, hk _ _ h.pa, hk _ _ h.po, hk _ _ h.su, fun z => hk _ _ (h.aE z), fun z => hk _ _ (h.qE z), fun i hi => hk _ _ (h.xa hi), fun i hi => hk _ _ (h.xq hi), fun i hi => hk _ _ (h.wh hi), fun i hi => hk _ _ (h.hh hi), fun i hi => hk _ _ (h.vv hi)⟩
theorem RM.nw (h : RM g K e0 S X μ) {o : Nat} {e : va_E} (ho : μ o = none) : RM g K e0 S X (mp μ o e) := h.keep fun a x ha => mp_k ha (nn_ne ho ha)
/-- the parts that do not stand in the cells -/
theorem RM.wt (h : RM g K e0 S X μ) (t' : Nat → Int32) : RM g K e0 (S.wt t') X μ := h
theorem RM.wla (h : RM g K e0 S X μ) (y : UInt64) : RM g K e0 (S.wla y) X μ := h
end RMS
/-- how the reference's own stands to the match -/
def MR (S : SS) (X : XS) (b : Nat) : Prop := X.T ≤ b ∧ (S.t 0 = 0 → X.pa 0 = -1) ∧ (¬ S.t 0 = 0 → X.pa 0 = S.t 1 ∧ X.pa 1 = S.t 2 ∧ X.po 0 = S.t 3 ∧ X.po 1 = S.t 4 ∧ X.su 0 = S.t 5 ∧ X.su 1 = S.t 6 ∧ X.il = S.t 8 ∧ (S.t 8 = 0 → S.t 7 = nI (X.T % 4)) ∧ (¬ S.t 8 = 0 → S.t 7 = nI (X.T % 2) ∧ (X.T % 2 = 1 → X.ne = S.la)))
abbrev RMX (g : Nat → ClassId) (K : Nat → Nat → Nat) (e0 : Nat) (S : SS) (th : Int32) (b : Nat) (μ : mu) : Prop := ∃ X : XS, RM g K e0 S X μ ∧ MR S X b ∧ X.th = th
theorem MR.up {S : SS} {X : XS} {b b' : Nat} (h : MR S X b) (hb : b ≤ b') : MR S X b' := ⟨Nat.le_trans h.1 hb, h.2⟩
