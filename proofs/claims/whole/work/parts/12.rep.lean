/-! ===== the state, and the class's cells that bear it ===== -/
/-- archers, quivers, the main cell's numbers, the archers', their creeps, the quivers', the states of arrows, where they hit, the match's, its first last arrow -/
abbrev SS : Type := Nat × Nat × (Nat → Int32) × (Nat → Nat → Int32) × (Nat → UInt32) × (Nat → Nat → Int32) × (Nat → Nat → Int32) × (Nat → Nat → UInt64) × (Nat → Nat → UInt64) × (Nat → Int32) × UInt64
abbrev SS.nA (S : SS) : Nat := S.1
abbrev SS.nQ (S : SS) : Nat := S.2.1
abbrev SS.c (S : SS) : Nat → Int32 := S.2.2.1
abbrev SS.A (S : SS) : Nat → Nat → Int32 := S.2.2.2.1
abbrev SS.cr (S : SS) : Nat → UInt32 := S.2.2.2.2.1
abbrev SS.q (S : SS) : Nat → Nat → Int32 := S.2.2.2.2.2.1
abbrev SS.F (S : SS) : Nat → Nat → Int32 := S.2.2.2.2.2.2.1
abbrev SS.H (S : SS) : Nat → Nat → UInt64 := S.2.2.2.2.2.2.2.1
abbrev SS.V (S : SS) : Nat → Nat → UInt64 := S.2.2.2.2.2.2.2.2.1
abbrev SS.t (S : SS) : Nat → Int32 := S.2.2.2.2.2.2.2.2.2.1
abbrev SS.la (S : SS) : UInt64 := S.2.2.2.2.2.2.2.2.2.2
abbrev SS.wnA (S : SS) (x : Nat) : SS := (x, S.nQ, S.c, S.A, S.cr, S.q, S.F, S.H, S.V, S.t, S.la)
abbrev SS.wnQ (S : SS) (x : Nat) : SS := (S.nA, x, S.c, S.A, S.cr, S.q, S.F, S.H, S.V, S.t, S.la)
abbrev SS.wc (S : SS) (x : Nat → Int32) : SS := (S.nA, S.nQ, x, S.A, S.cr, S.q, S.F, S.H, S.V, S.t, S.la)
abbrev SS.wA (S : SS) (x : Nat → Nat → Int32) : SS := (S.nA, S.nQ, S.c, x, S.cr, S.q, S.F, S.H, S.V, S.t, S.la)
abbrev SS.wcr (S : SS) (x : Nat → UInt32) : SS := (S.nA, S.nQ, S.c, S.A, x, S.q, S.F, S.H, S.V, S.t, S.la)
abbrev SS.wq (S : SS) (x : Nat → Nat → Int32) : SS := (S.nA, S.nQ, S.c, S.A, S.cr, x, S.F, S.H, S.V, S.t, S.la)
abbrev SS.wF (S : SS) (x : Nat → Nat → Int32) : SS := (S.nA, S.nQ, S.c, S.A, S.cr, S.q, x, S.H, S.V, S.t, S.la)
abbrev SS.wH (S : SS) (x : Nat → Nat → UInt64) : SS := (S.nA, S.nQ, S.c, S.A, S.cr, S.q, S.F, x, S.V, S.t, S.la)
abbrev SS.wV (S : SS) (x : Nat → Nat → UInt64) : SS := (S.nA, S.nQ, S.c, S.A, S.cr, S.q, S.F, S.H, x, S.t, S.la)
abbrev SS.wt (S : SS) (x : Nat → Int32) : SS := (S.nA, S.nQ, S.c, S.A, S.cr, S.q, S.F, S.H, S.V, x, S.la)
abbrev SS.wla (S : SS) (x : UInt64) : SS := (S.nA, S.nQ, S.c, S.A, S.cr, S.q, S.F, S.H, S.V, S.t, x)
def vC (k i : Nat) : Prop := (k < 5 ∧ i = 0) ∨ (5 ≤ k ∧ k < 10 ∧ i < 6)
def LI (L : Nat → Nat → Nat) : Prop := ∀ k i k' i', vC k i → vC k' i' → L k i = L k' i' → k = k' ∧ i = i'
theorem LI.ne {L : Nat → Nat → Nat} (h : LI L) {k i k' i' : Nat} (hv : vC k i) (hv' : vC k' i') (hne : k ≠ k' ∨ i ≠ i') : L k i ≠ L k' i' := fun e => by
  obtain ⟨a, b⟩ := h k i k' i' hv hv' e
  rcases hne with q | q
  · exact q a
  · exact q b
theorem v0 {k : Nat} (h : k < 5) : vC k 0 := Or.inl ⟨h, rfl⟩
theorem v5 {k i : Nat} (h : 5 ≤ k ∧ k < 10) (hi : i < 6) : vC k i := Or.inr ⟨h.1, h.2, hi⟩
def fu {α : Type} (f : Nat → α) (i : Nat) (x : α) : Nat → α := fun j => if j = i then x else f j
theorem fu_s {α : Type} {f : Nat → α} {i : Nat} {x : α} : fu f i x i = x := if_pos rfl
theorem fu_n {α : Type} {f : Nat → α} {i j : Nat} {x : α} (h : j ≠ i) : fu f i x j = f j := if_neg h
theorem fu_id {α : Type} (f : Nat → α) (i : Nat) : fu f i (f i) = f := by
  funext j
  by_cases h : j = i
  · rw [h, fu_s]
  · rw [fu_n h]
theorem fu_fu {α : Type} {f : Nat → α} {i : Nat} {x y : α} : fu (fu f i x) i y = fu f i y := by
  funext j
  by_cases h : j = i
  · rw [h, fu_s, fu_s]
  · rw [fu_n h, fu_n h, fu_n h]
def RC (g : Nat → ClassId) (L : Nat → Nat → Nat) (S : SS) (fh fv : UInt64) (μ : mu) : Prop :=
  LI L ∧ μ (L 0 0) = some (eMn S.c (L 1 0) (L 2 0) (L 3 0) (L 4 0)) ∧ μ (L 1 0) = some (eQ (g 3) 6 (fun i => some (L 5 i))) ∧ μ (L 2 0) = some (eQ (g 4) 6 (fun i => some (L 6 i))) ∧ μ (L 3 0) = some (eMt S.t S.la) ∧ μ (L 4 0) = some (eFl fh fv) ∧
  (∀ i, i < 6 → μ (L 5 i) = some (eAr (S.A i) (S.cr i))) ∧ (∀ i, i < 6 → μ (L 6 i) = some (eQu (S.q i) (L 7 i) (L 8 i) (L 9 i))) ∧ (∀ i, i < 6 → μ (L 7 i) = some (eI g 12 (S.F i))) ∧ (∀ i, i < 6 → μ (L 8 i) = some (eD g 12 (S.H i))) ∧ (∀ i, i < 6 → μ (L 9 i) = some (eD g 12 (S.V i)))
abbrev RX (g : Nat → ClassId) (L : Nat → Nat → Nat) (S : SS) (μ : mu) : Prop := ∃ fh fv : UInt64, RC g L S fh fv μ
/-- what a method of the class leaves alone -/
def FrC (L : Nat → Nat → Nat) (μ μ' : mu) : Prop := ∀ (a : Nat) (e : va_E), μ a = some e → (∀ k i, vC k i → a ≠ L k i) → μ' a = some e
theorem FrC.rf {L : Nat → Nat → Nat} {μ : mu} : FrC L μ μ := fun _ _ h _ => h
theorem FrC.tr {L : Nat → Nat → Nat} {μ μ' μ'' : mu} (h : FrC L μ μ') (h' : FrC L μ' μ'') : FrC L μ μ'' := fun a e ha hn => h' a e (h a e ha hn) hn
theorem FrC.mp {L : Nat → Nat → Nat} {μ μ' : mu} (h : FrC L μ μ') {k i : Nat} {e : va_E} (hv : vC k i) : FrC L μ (mp μ' (L k i) e) := h.tr fun a x ha hn => mp_k ha (hn k i hv)
section RCS
variable {g : Nat → ClassId} {L : Nat → Nat → Nat} {S : SS} {fh fv : UInt64} {μ : mu}
theorem RC.li (h : RC g L S fh fv μ) : LI L := h.1
theorem RC.mn (h : RC g L S fh fv μ) : μ (L 0 0) = some (eMn S.c (L 1 0) (L 2 0) (L 3 0) (L 4 0)) := h.2.1
theorem RC.aA (h : RC g L S fh fv μ) : μ (L 1 0) = some (eQ (g 3) 6 (fun i => some (L 5 i))) := h.2.2.1
theorem RC.aQ (h : RC g L S fh fv μ) : μ (L 2 0) = some (eQ (g 4) 6 (fun i => some (L 6 i))) := h.2.2.2.1
theorem RC.mt (h : RC g L S fh fv μ) : μ (L 3 0) = some (eMt S.t S.la) := h.2.2.2.2.1
theorem RC.fl (h : RC g L S fh fv μ) : μ (L 4 0) = some (eFl fh fv) := h.2.2.2.2.2.1
theorem RC.ar (h : RC g L S fh fv μ) {i : Nat} (hi : i < 6) : μ (L 5 i) = some (eAr (S.A i) (S.cr i)) := h.2.2.2.2.2.2.1 i hi
theorem RC.qu (h : RC g L S fh fv μ) {i : Nat} (hi : i < 6) : μ (L 6 i) = some (eQu (S.q i) (L 7 i) (L 8 i) (L 9 i)) := h.2.2.2.2.2.2.2.1 i hi
theorem RC.st (h : RC g L S fh fv μ) {i : Nat} (hi : i < 6) : μ (L 7 i) = some (eI g 12 (S.F i)) := h.2.2.2.2.2.2.2.2.1 i hi
theorem RC.hh (h : RC g L S fh fv μ) {i : Nat} (hi : i < 6) : μ (L 8 i) = some (eD g 12 (S.H i)) := h.2.2.2.2.2.2.2.2.2.1 i hi
theorem RC.vv (h : RC g L S fh fv μ) {i : Nat} (hi : i < 6) : μ (L 9 i) = some (eD g 12 (S.V i)) := h.2.2.2.2.2.2.2.2.2.2 i hi
/-- the pieces behind a write of one cell -/
theorem RC.put (h : RC g L S fh fv μ) {k i : Nat} (hv : vC k i) (e : va_E) {k' i' : Nat} {x : va_E} (hv' : vC k' i') (hx : μ (L k' i') = some x) (hne : k' ≠ k ∨ i' ≠ i) : mp μ (L k i) e (L k' i') = some x := mp_k hx (h.li.ne hv' hv hne)
theorem RC.setMn (h : RC g L S fh fv μ) (c' : Nat → Int32) : RC g L (S.wc c') fh fv (mp μ (L 0 0) (eMn c' (L 1 0) (L 2 0) (L 3 0) (L 4 0))) :=
  have p := fun {k' i'} {z} => h.put (v0 (k := 0) (by decide)) (eMn c' (L 1 0) (L 2 0) (L 3 0) (L 4 0)) (k' := k') (i' := i') (x := z)
  ⟨h.li, mp_s, p (v0 (by decide)) h.aA (Or.inl (by decide)), p (v0 (by decide)) h.aQ (Or.inl (by decide)), p (v0 (by decide)) h.mt (Or.inl (by decide)), p (v0 (by decide)) h.fl (Or.inl (by decide)), fun j hj => p (v5 (by decide) hj) (h.ar hj) (Or.inl (by decide)), fun j hj => p (v5 (by decide) hj) (h.qu hj) (Or.inl (by decide)), fun j hj => p (v5 (by decide) hj) (h.st hj) (Or.inl (by decide)), fun j hj => p (v5 (by decide) hj) (h.hh hj) (Or.inl (by decide)), fun j hj => p (v5 (by decide) hj) (h.vv hj) (Or.inl (by decide))⟩
theorem RC.setMt (h : RC g L S fh fv μ) (t' : Nat → Int32) (la' : UInt64) : RC g L ((S.wt t').wla la') fh fv (mp μ (L 3 0) (eMt t' la')) :=
  have p := fun {k' i'} {z} => h.put (v0 (k := 3) (by decide)) (eMt t' la') (k' := k') (i' := i') (x := z)
  ⟨h.li, p (v0 (by decide)) h.mn (Or.inl (by decide)), p (v0 (by decide)) h.aA (Or.inl (by decide)), p (v0 (by decide)) h.aQ (Or.inl (by decide)), mp_s, p (v0 (by decide)) h.fl (Or.inl (by decide)), fun j hj => p (v5 (by decide) hj) (h.ar hj) (Or.inl (by decide)), fun j hj => p (v5 (by decide) hj) (h.qu hj) (Or.inl (by decide)), fun j hj => p (v5 (by decide) hj) (h.st hj) (Or.inl (by decide)), fun j hj => p (v5 (by decide) hj) (h.hh hj) (Or.inl (by decide)), fun j hj => p (v5 (by decide) hj) (h.vv hj) (Or.inl (by decide))⟩
theorem RC.setFl (h : RC g L S fh fv μ) (fh' fv' : UInt64) : RC g L (S) fh' fv' (mp μ (L 4 0) (eFl fh' fv')) :=
  have p := fun {k' i'} {z} => h.put (v0 (k := 4) (by decide)) (eFl fh' fv') (k' := k') (i' := i') (x := z)
  ⟨h.li, p (v0 (by decide)) h.mn (Or.inl (by decide)), p (v0 (by decide)) h.aA (Or.inl (by decide)), p (v0 (by decide)) h.aQ (Or.inl (by decide)), p (v0 (by decide)) h.mt (Or.inl (by decide)), mp_s, fun j hj => p (v5 (by decide) hj) (h.ar hj) (Or.inl (by decide)), fun j hj => p (v5 (by decide) hj) (h.qu hj) (Or.inl (by decide)), fun j hj => p (v5 (by decide) hj) (h.st hj) (Or.inl (by decide)), fun j hj => p (v5 (by decide) hj) (h.hh hj) (Or.inl (by decide)), fun j hj => p (v5 (by decide) hj) (h.vv hj) (Or.inl (by decide))⟩
theorem RC.setAr (h : RC g L S fh fv μ) {i : Nat} (hi : i < 6) (x : Nat → Int32) (y : UInt32) : RC g L ((S.wA (fu S.A i x)).wcr (fu S.cr i y)) fh fv (mp μ (L 5 i) (eAr x y)) :=
  have p := fun {k' i'} {z} => h.put (v5 (k := 5) (by decide) hi) (eAr x y) (k' := k') (i' := i') (x := z)
  ⟨h.li, p (v0 (by decide)) h.mn (Or.inl (by decide)), p (v0 (by decide)) h.aA (Or.inl (by decide)), p (v0 (by decide)) h.aQ (Or.inl (by decide)), p (v0 (by decide)) h.mt (Or.inl (by decide)), p (v0 (by decide)) h.fl (Or.inl (by decide)), fun j hj => by
    show mp μ (L 5 i) _ (L 5 j) = some (eAr (fu S.A i x j) (fu S.cr i y j))
    by_cases e : j = i
    · rw [e, fu_s, fu_s]; exact mp_s
    · rw [fu_n e, fu_n e]; exact p (v5 (by decide) hj) (h.ar hj) (Or.inr e), fun j hj => p (v5 (by decide) hj) (h.qu hj) (Or.inl (by decide)), fun j hj => p (v5 (by decide) hj) (h.st hj) (Or.inl (by decide)), fun j hj => p (v5 (by decide) hj) (h.hh hj) (Or.inl (by decide)), fun j hj => p (v5 (by decide) hj) (h.vv hj) (Or.inl (by decide))⟩
theorem RC.setQu (h : RC g L S fh fv μ) {i : Nat} (hi : i < 6) (x : Nat → Int32) : RC g L (S.wq (fu S.q i x)) fh fv (mp μ (L 6 i) (eQu x (L 7 i) (L 8 i) (L 9 i))) :=
  have p := fun {k' i'} {z} => h.put (v5 (k := 6) (by decide) hi) (eQu x (L 7 i) (L 8 i) (L 9 i)) (k' := k') (i' := i') (x := z)
  ⟨h.li, p (v0 (by decide)) h.mn (Or.inl (by decide)), p (v0 (by decide)) h.aA (Or.inl (by decide)), p (v0 (by decide)) h.aQ (Or.inl (by decide)), p (v0 (by decide)) h.mt (Or.inl (by decide)), p (v0 (by decide)) h.fl (Or.inl (by decide)), fun j hj => p (v5 (by decide) hj) (h.ar hj) (Or.inl (by decide)), fun j hj => by
    show mp μ (L 6 i) _ (L 6 j) = some (eQu (fu S.q i x j) (L 7 j) (L 8 j) (L 9 j))
    by_cases e : j = i
    · rw [e, fu_s]; exact mp_s
    · rw [fu_n e]; exact p (v5 (by decide) hj) (h.qu hj) (Or.inr e), fun j hj => p (v5 (by decide) hj) (h.st hj) (Or.inl (by decide)), fun j hj => p (v5 (by decide) hj) (h.hh hj) (Or.inl (by decide)), fun j hj => p (v5 (by decide) hj) (h.vv hj) (Or.inl (by decide))⟩
theorem RC.setSt (h : RC g L S fh fv μ) {i : Nat} (hi : i < 6) (x : Nat → Int32) : RC g L (S.wF (fu S.F i x)) fh fv (mp μ (L 7 i) (eI g 12 x)) :=
  have p := fun {k' i'} {z} => h.put (v5 (k := 7) (by decide) hi) (eI g 12 x) (k' := k') (i' := i') (x := z)
  ⟨h.li, p (v0 (by decide)) h.mn (Or.inl (by decide)), p (v0 (by decide)) h.aA (Or.inl (by decide)), p (v0 (by decide)) h.aQ (Or.inl (by decide)), p (v0 (by decide)) h.mt (Or.inl (by decide)), p (v0 (by decide)) h.fl (Or.inl (by decide)), fun j hj => p (v5 (by decide) hj) (h.ar hj) (Or.inl (by decide)), fun j hj => p (v5 (by decide) hj) (h.qu hj) (Or.inl (by decide)), fun j hj => by
    show mp μ (L 7 i) _ (L 7 j) = some (eI g 12 (fu S.F i x j))
    by_cases e : j = i
    · rw [e, fu_s]; exact mp_s
    · rw [fu_n e]; exact p (v5 (by decide) hj) (h.st hj) (Or.inr e), fun j hj => p (v5 (by decide) hj) (h.hh hj) (Or.inl (by decide)), fun j hj => p (v5 (by decide) hj) (h.vv hj) (Or.inl (by decide))⟩
theorem RC.setHh (h : RC g L S fh fv μ) {i : Nat} (hi : i < 6) (x : Nat → UInt64) : RC g L (S.wH (fu S.H i x)) fh fv (mp μ (L 8 i) (eD g 12 x)) :=
  have p := fun {k' i'} {z} => h.put (v5 (k := 8) (by decide) hi) (eD g 12 x) (k' := k') (i' := i') (x := z)
  ⟨h.li, p (v0 (by decide)) h.mn (Or.inl (by decide)), p (v0 (by decide)) h.aA (Or.inl (by decide)), p (v0 (by decide)) h.aQ (Or.inl (by decide)), p (v0 (by decide)) h.mt (Or.inl (by decide)), p (v0 (by decide)) h.fl (Or.inl (by decide)), fun j hj => p (v5 (by decide) hj) (h.ar hj) (Or.inl (by decide)), fun j hj => p (v5 (by decide) hj) (h.qu hj) (Or.inl (by decide)), fun j hj => p (v5 (by decide) hj) (h.st hj) (Or.inl (by decide)), fun j hj => by
    show mp μ (L 8 i) _ (L 8 j) = some (eD g 12 (fu S.H i x j))
    by_cases e : j = i
    · rw [e, fu_s]; exact mp_s
    · rw [fu_n e]; exact p (v5 (by decide) hj) (h.hh hj) (Or.inr e), fun j hj => p (v5 (by decide) hj) (h.vv hj) (Or.inl (by decide))⟩
theorem RC.setVv (h : RC g L S fh fv μ) {i : Nat} (hi : i < 6) (x : Nat → UInt64) : RC g L (S.wV (fu S.V i x)) fh fv (mp μ (L 9 i) (eD g 12 x)) :=
  have p := fun {k' i'} {z} => h.put (v5 (k := 9) (by decide) hi) (eD g 12 x) (k' := k') (i' := i') (x := z)
  ⟨h.li, p (v0 (by decide)) h.mn (Or.inl (by decide)), p (v0 (by decide)) h.aA (Or.inl (by decide)), p (v0 (by decide)) h.aQ (Or.inl (by decide)), p (v0 (by decide)) h.mt (Or.inl (by decide)), p (v0 (by decide)) h.fl (Or.inl (by decide)), fun j hj => p (v5 (by decide) hj) (h.ar hj) (Or.inl (by decide)), fun j hj => p (v5 (by decide) hj) (h.qu hj) (Or.inl (by decide)), fun j hj => p (v5 (by decide) hj) (h.st hj) (Or.inl (by decide)), fun j hj => p (v5 (by decide) hj) (h.hh hj) (Or.inl (by decide)), fun j hj => by
    show mp μ (L 9 i) _ (L 9 j) = some (eD g 12 (fu S.V i x j))
    by_cases e : j = i
    · rw [e, fu_s]; exact mp_s
    · rw [fu_n e]; exact p (v5 (by decide) hj) (h.vv hj) (Or.inr e)⟩
end RCS
/-- what holds of the state between calls -/
def Iv (S : SS) : Prop :=
  (S.c 2 = nI S.nA ∧ S.nA ≤ 6 ∧ S.c 3 = nI S.nQ ∧ S.nQ ≤ 6) ∧ (10 ≤ (S.c 4).toInt ∧ (S.c 4).toInt ≤ 90) ∧ (S.c 7 = 0 ∨ S.c 7 = 1) ∧
  (∀ i, i < S.nA → (20 ≤ (S.A i 0).toInt ∧ (S.A i 0).toInt ≤ 60) ∧ CrOk (S.cr i) ∧ (S.A i 5 = -1 ∨ ∃ j, j < S.nQ ∧ S.A i 5 = nI j)) ∧
  (∀ i, S.nA ≤ i → S.A i = (fun k => if k = 5 then -1 else 0) ∧ S.cr i = 0) ∧
  (∀ j, j < S.nQ → 200 ≤ (S.q j 0).toInt ∧ (S.q j 0).toInt ≤ 600) ∧
  (∀ j, S.nQ ≤ j → S.q j = (fun _ => 0) ∧ S.F j = (fun _ => 0) ∧ S.H j = (fun _ => 0) ∧ S.V j = (fun _ => 0)) ∧
  (∀ j k, Eb 1412 (S.H j k) ∧ Eb 1412 (S.V j k) ∧ (S.F j k = 0 ∨ S.F j k = 1 ∨ S.F j k = 2 ∨ S.F j k = 3)) ∧ Eb 1900 S.la ∧
  (S.t 0 = 0 ∨ (S.t 0 = 1 ∧ ∃ k i j, k < 4 ∧ S.t 7 = nI k ∧ i < S.nA ∧ S.t 1 = nI i ∧ j < S.nA ∧ S.t 2 = nI j ∧ i ≠ j ∧ (S.t 8 = 0 ∨ (S.t 8 = 1 ∧ k < 2))))
/-- a number below n -/
def inb (x : Int32) (n : Nat) : Bool := decide (0 ≤ x ∧ x < nI n)
theorem inb_iff {x : Int32} {n : Nat} (hn : n < 2 ^ 31) : inb x n = true ↔ ∃ j, j < n ∧ x = nI j := by
  unfold inb
  rw [decide_eq_true_eq]
  constructor
  · intro h
    rcases pk_ix x hn with q | q | q
    · exact absurd h.1 (Int32.not_le.mpr q)
    · exact absurd h.2 (Int32.not_lt.mpr q)
    · exact q
  · rintro ⟨j, hj, rfl⟩
    exact ⟨nI_pos' (by omega), nI_lt hj hn⟩
theorem inb_nI {j n : Nat} (hj : j < n) (hn : n < 2 ^ 31) : inb (nI j) n = true := (inb_iff hn).mpr ⟨j, hj, rfl⟩
theorem inb_y {x : Int32} {n : Nat} (h1 : ¬ x < 0) (h2 : ¬ nI n ≤ x) : inb x n = true := decide_eq_true ⟨Int32.not_lt.mp h1, Int32.not_le.mp h2⟩
theorem inb_n1 {x : Int32} {n : Nat} (h1 : x < 0) : inb x n = false := decide_eq_false fun q => Int32.not_lt.mpr q.1 h1
theorem inb_n2 {x : Int32} {n : Nat} (h1 : nI n ≤ x) : inb x n = false := decide_eq_false fun q => Int32.not_le.mpr q.2 h1
/-- a number within bounds -/
def btw (x lo hi : Int32) : Bool := decide (lo ≤ x ∧ x ≤ hi)
theorem btw_y {x lo hi : Int32} (h1 : ¬ x < lo) (h2 : x ≤ hi) : btw x lo hi = true := decide_eq_true ⟨Int32.not_lt.mp h1, h2⟩
theorem btw_n1 {x lo hi : Int32} (h1 : x < lo) : btw x lo hi = false := decide_eq_false fun q => Int32.not_lt.mpr q.1 h1
theorem btw_n2 {x lo hi : Int32} (h1 : ¬ x ≤ hi) : btw x lo hi = false := decide_eq_false fun q => h1 q.2
theorem btw_of {x lo hi : Int32} (h : btw x lo hi = true) : lo ≤ x ∧ x ≤ hi := of_decide_eq_true h
theorem inb_of {x : Int32} {n : Nat} (h : inb x n = true) (hn : n < 2 ^ 31) : ∃ j, j < n ∧ x = nI j := (inb_iff hn).mp h
/-- the first of i .. i + k - 1 that has it, else i + k -/
def fsI (p : Nat → Bool) : Nat → Nat → Nat
  | 0, i => i
  | k + 1, i => if p i = true then i else fsI p k (i + 1)
theorem fsI_le (p : Nat → Bool) : ∀ k i, i ≤ fsI p k i ∧ fsI p k i ≤ i + k
  | 0, i => ⟨Nat.le_refl _, Nat.le_refl _⟩
  | k + 1, i => by
    unfold fsI
    have h := fsI_le p k (i + 1)
    split <;> omega
theorem fstN_I (p : Nat → Bool) : ∀ k i, fstN p k i = if fsI p k i < i + k then nI (fsI p k i) else -1
  | 0, i => by rw [if_neg (by unfold fsI; omega)]; rfl
  | k + 1, i => by
    unfold fsI fstN
    by_cases h : p i = true
    · rw [if_pos h, if_pos h, if_pos (by omega)]
    · rw [if_neg h, if_neg h, fstN_I p k (i + 1)]
      have e : i + 1 + k = i + (k + 1) := by omega
      rw [e]
/-- who has a quiver; how many are stuck -/
def hoI (S : SS) (x : Int32) : Nat := fsI (fun i => decide (S.A i 5 = x)) S.nA 0
def hoF (S : SS) (x : Int32) : Int32 := fstN (fun i => decide (S.A i 5 = x)) S.nA 0
theorem hoF_I (S : SS) (x : Int32) : hoF S x = if hoI S x < S.nA then nI (hoI S x) else -1 := by
  unfold hoF hoI
  rw [fstN_I, Nat.zero_add]
def skN (F : Nat → Nat → Int32) : Nat → Int32
  | 0 => 0
  | n + 1 => skN F n + bcF (setN (F n) 1 12)
def skF (S : SS) : Int32 := skN S.F S.nQ
abbrev IOB : String := "java/lang/IndexOutOfBoundsException"
abbrev ISE : String := "java/lang/IllegalStateException"
abbrev IAE : String := "java/lang/IllegalArgumentException"
/-- the exception by its number -/
abbrev px9 (es : List String) (cd : Nat) (E : String) : Prop := cd ≠ 0 ∧ es[cd - 1]? = some E
theorem xb58 : ∀ w ∈ (vx_atS RX4 58 ISE xN).filter (fun w => !goodWord w), w ∈ xB ISE := by decide +kernel
theorem xb180 : ∀ w ∈ (vx_atS RX4 180 IAE xN).filter (fun w => !goodWord w), w ∈ xB IAE := by decide +kernel
theorem xb308 : ∀ w ∈ (vx_atS RX4 308 IOB xN).filter (fun w => !goodWord w), w ∈ xB IOB := by decide +kernel
theorem xo58 : ∀ w ∈ Cond.classLink RX4 54 ISE :: Cond.initialized ISE :: vx_atS RX4 58 ISE xN, vx_ot w = true := by decide +kernel
theorem xo180 : ∀ w ∈ Cond.classLink RX4 176 IAE :: Cond.initialized IAE :: vx_atS RX4 180 IAE xN, vx_ot w = true := by decide +kernel
theorem xo308 : ∀ w ∈ Cond.classLink RX4 304 IOB :: Cond.initialized IOB :: vx_atS RX4 308 IOB xN, vx_ot w = true := by decide +kernel
