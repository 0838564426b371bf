/-! ===== the class's state in the heap ===== -/
def vC (k i : Nat) : Prop := (k < 5 ∧ i = 0) ∨ (5 ≤ k ∧ k < 10 ∧ i < 6)
def LI (L : Nat → Nat → Nat) : Prop := ∀ k i k' i', vC k i → vC k' i' → L k i = L k' i' → k = k' ∧ i = i'
theorem LI.ne {L : Nat → Nat → Nat} (h : LI L) {k i k' i' : Nat} (hv : vC k i) (hv' : vC k' i') (hne : k ≠ k' ∨ i ≠ i') : L k i ≠ L k' i' := fun e => by
  obtain ⟨a, b⟩ := h k i k' i' hv hv' e
  rcases hne with q | q
  · exact q a
  · exact q b
theorem v0 {k : Nat} (h : k < 5) : vC k 0 := Or.inl ⟨h, rfl⟩
theorem v5 {k i : Nat} (h : 5 ≤ k ∧ k < 10) (hi : i < 6) : vC k i := Or.inr ⟨h.1, h.2, hi⟩
def fu {α : Type} (f : Nat → α) (i : Nat) (x : α) : Nat → α := fun j => if j = i then x else f j
theorem fu_s {α : Type} {f : Nat → α} {i : Nat} {x : α} : fu f i x i = x := if_pos rfl
theorem fu_n {α : Type} {f : Nat → α} {i j : Nat} {x : α} (h : j ≠ i) : fu f i x j = f j := if_neg h
theorem fu_id {α : Type} (f : Nat → α) (i : Nat) : fu f i (f i) = f := by
  funext j
  by_cases h : j = i
  · rw [h, fu_s]
  · rw [fu_n h]
theorem fu_fu {α : Type} {f : Nat → α} {i : Nat} {x y : α} : fu (fu f i x) i y = fu f i y := by
  funext j
  by_cases h : j = i
  · rw [h, fu_s, fu_s]
  · rw [fu_n h, fu_n h, fu_n h]
def RC (g : Nat → ClassId) (L : Nat → Nat → Nat) (c : Nat → Int32) (A : Nat → Nat → Int32) (cr : Nat → UInt32) (q F : Nat → Nat → Int32) (H V : Nat → Nat → UInt64) (t : Nat → Int32) (la fh fv : UInt64) (μ : mu) : Prop :=
  LI L ∧ μ (L 0 0) = some (eMn c (L 1 0) (L 2 0) (L 3 0) (L 4 0)) ∧ μ (L 1 0) = some (eQ (g 3) 6 (fun i => some (L 5 i))) ∧ μ (L 2 0) = some (eQ (g 4) 6 (fun i => some (L 6 i))) ∧ μ (L 3 0) = some (eMt t la) ∧ μ (L 4 0) = some (eFl fh fv) ∧
  (∀ i, i < 6 → μ (L 5 i) = some (eAr (A i) (cr i))) ∧ (∀ i, i < 6 → μ (L 6 i) = some (eQu (q i) (L 7 i) (L 8 i) (L 9 i))) ∧ (∀ i, i < 6 → μ (L 7 i) = some (eI g 12 (F i))) ∧ (∀ i, i < 6 → μ (L 8 i) = some (eD g 12 (H i))) ∧ (∀ i, i < 6 → μ (L 9 i) = some (eD g 12 (V i)))
/-- what a method of the class leaves alone -/
def FrC (L : Nat → Nat → Nat) (μ μ' : mu) : Prop := ∀ (a : Nat) (e : va_E), μ a = some e → (∀ k i, vC k i → a ≠ L k i) → μ' a = some e
theorem FrC.rf {L : Nat → Nat → Nat} {μ : mu} : FrC L μ μ := fun _ _ h _ => h
theorem FrC.tr {L : Nat → Nat → Nat} {μ μ' μ'' : mu} (h : FrC L μ μ') (h' : FrC L μ' μ'') : FrC L μ μ'' := fun a e ha hn => h' a e (h a e ha hn) hn
theorem FrC.mp {L : Nat → Nat → Nat} {μ : mu} {k i : Nat} {e : va_E} (hv : vC k i) : FrC L μ (mp μ (L k i) e) := fun a x ha hn => mp_k ha (hn k i hv)
section RCS
variable {g : Nat → ClassId} {L : Nat → Nat → Nat} {c : Nat → Int32} {A : Nat → Nat → Int32} {cr : Nat → UInt32} {q F : Nat → Nat → Int32} {H V : Nat → Nat → UInt64} {t : Nat → Int32} {la fh fv : UInt64} {μ : mu}
theorem RC.li (h : RC g L c A cr q F H V t la fh fv μ) : LI L := h.1
theorem RC.mn (h : RC g L c A cr q F H V t la fh fv μ) : μ (L 0 0) = some (eMn c (L 1 0) (L 2 0) (L 3 0) (L 4 0)) := h.2.1
theorem RC.aA (h : RC g L c A cr q F H V t la fh fv μ) : μ (L 1 0) = some (eQ (g 3) 6 (fun i => some (L 5 i))) := h.2.2.1
theorem RC.aQ (h : RC g L c A cr q F H V t la fh fv μ) : μ (L 2 0) = some (eQ (g 4) 6 (fun i => some (L 6 i))) := h.2.2.2.1
theorem RC.mt (h : RC g L c A cr q F H V t la fh fv μ) : μ (L 3 0) = some (eMt t la) := h.2.2.2.2.1
theorem RC.fl (h : RC g L c A cr q F H V t la fh fv μ) : μ (L 4 0) = some (eFl fh fv) := h.2.2.2.2.2.1
theorem RC.ar (h : RC g L c A cr q F H V t la fh fv μ) {i : Nat} (hi : i < 6) : μ (L 5 i) = some (eAr (A i) (cr i)) := h.2.2.2.2.2.2.1 i hi
theorem RC.qu (h : RC g L c A cr q F H V t la fh fv μ) {i : Nat} (hi : i < 6) : μ (L 6 i) = some (eQu (q i) (L 7 i) (L 8 i) (L 9 i)) := h.2.2.2.2.2.2.2.1 i hi
theorem RC.st (h : RC g L c A cr q F H V t la fh fv μ) {i : Nat} (hi : i < 6) : μ (L 7 i) = some (eI g 12 (F i)) := h.2.2.2.2.2.2.2.2.1 i hi
theorem RC.hh (h : RC g L c A cr q F H V t la fh fv μ) {i : Nat} (hi : i < 6) : μ (L 8 i) = some (eD g 12 (H i)) := h.2.2.2.2.2.2.2.2.2.1 i hi
theorem RC.vv (h : RC g L c A cr q F H V t la fh fv μ) {i : Nat} (hi : i < 6) : μ (L 9 i) = some (eD g 12 (V i)) := h.2.2.2.2.2.2.2.2.2.2 i hi
/-- the pieces behind a write of one cell -/
theorem RC.put (h : RC g L c A cr q F H V t la fh fv μ) {k i : Nat} (hv : vC k i) (e : va_E) {k' i' : Nat} {x : va_E} (hv' : vC k' i') (hx : μ (L k' i') = some x) (hne : k' ≠ k ∨ i' ≠ i) : mp μ (L k i) e (L k' i') = some x := mp_k hx (h.li.ne hv' hv hne)
theorem RC.setMn (h : RC g L c A cr q F H V t la fh fv μ) (c' : Nat → Int32) : RC g L c' A cr q F H V t la fh fv (mp μ (L 0 0) (eMn c' (L 1 0) (L 2 0) (L 3 0) (L 4 0))) :=
  have p := fun {k' i'} {x} => h.put (v0 (k := 0) (by decide)) (eMn c' (L 1 0) (L 2 0) (L 3 0) (L 4 0)) (k' := k') (i' := i') (x := x)
  ⟨h.li, mp_s, p (v0 (by decide)) h.aA (Or.inl (by decide)), p (v0 (by decide)) h.aQ (Or.inl (by decide)), p (v0 (by decide)) h.mt (Or.inl (by decide)), p (v0 (by decide)) h.fl (Or.inl (by decide)), fun i hi => p (v5 (by decide) hi) (h.ar hi) (Or.inl (by decide)), fun i hi => p (v5 (by decide) hi) (h.qu hi) (Or.inl (by decide)), fun i hi => p (v5 (by decide) hi) (h.st hi) (Or.inl (by decide)), fun i hi => p (v5 (by decide) hi) (h.hh hi) (Or.inl (by decide)), fun i hi => p (v5 (by decide) hi) (h.vv hi) (Or.inl (by decide))⟩
theorem RC.setMt (h : RC g L c A cr q F H V t la fh fv μ) (t' : Nat → Int32) (la' : UInt64) : RC g L c A cr q F H V t' la' fh fv (mp μ (L 3 0) (eMt t' la')) :=
  have p := fun {k' i'} {x} => h.put (v0 (k := 3) (by decide)) (eMt t' la') (k' := k') (i' := i') (x := x)
  ⟨h.li, p (v0 (by decide)) h.mn (Or.inl (by decide)), p (v0 (by decide)) h.aA (Or.inl (by decide)), p (v0 (by decide)) h.aQ (Or.inl (by decide)), mp_s, p (v0 (by decide)) h.fl (Or.inl (by decide)), fun i hi => p (v5 (by decide) hi) (h.ar hi) (Or.inl (by decide)), fun i hi => p (v5 (by decide) hi) (h.qu hi) (Or.inl (by decide)), fun i hi => p (v5 (by decide) hi) (h.st hi) (Or.inl (by decide)), fun i hi => p (v5 (by decide) hi) (h.hh hi) (Or.inl (by decide)), fun i hi => p (v5 (by decide) hi) (h.vv hi) (Or.inl (by decide))⟩
theorem RC.setFl (h : RC g L c A cr q F H V t la fh fv μ) (fh' fv' : UInt64) : RC g L c A cr q F H V t la fh' fv' (mp μ (L 4 0) (eFl fh' fv')) :=
  have p := fun {k' i'} {x} => h.put (v0 (k := 4) (by decide)) (eFl fh' fv') (k' := k') (i' := i') (x := x)
  ⟨h.li, p (v0 (by decide)) h.mn (Or.inl (by decide)), p (v0 (by decide)) h.aA (Or.inl (by decide)), p (v0 (by decide)) h.aQ (Or.inl (by decide)), p (v0 (by decide)) h.mt (Or.inl (by decide)), mp_s, fun i hi => p (v5 (by decide) hi) (h.ar hi) (Or.inl (by decide)), fun i hi => p (v5 (by decide) hi) (h.qu hi) (Or.inl (by decide)), fun i hi => p (v5 (by decide) hi) (h.st hi) (Or.inl (by decide)), fun i hi => p (v5 (by decide) hi) (h.hh hi) (Or.inl (by decide)), fun i hi => p (v5 (by decide) hi) (h.vv hi) (Or.inl (by decide))⟩
theorem RC.setAr (h : RC g L c A cr q F H V t la fh fv μ) {i : Nat} (hi : i < 6) (x : Nat → Int32) (y : UInt32) : RC g L c (fu A i x) (fu cr i y) q F H V t la fh fv (mp μ (L 5 i) (eAr x y)) :=
  have p := fun {k' i'} {z} => h.put (v5 (k := 5) (by decide) hi) (eAr x y) (k' := k') (i' := i') (x := z)
  ⟨h.li, p (v0 (by decide)) h.mn (Or.inl (by decide)), p (v0 (by decide)) h.aA (Or.inl (by decide)), p (v0 (by decide)) h.aQ (Or.inl (by decide)), p (v0 (by decide)) h.mt (Or.inl (by decide)), p (v0 (by decide)) h.fl (Or.inl (by decide)), fun j hj => by
    by_cases e : j = i
    · rw [e, fu_s, fu_s]; exact mp_s
    · rw [fu_n e, fu_n e]; exact p (v5 (by decide) hj) (h.ar hj) (Or.inr e), fun i hi => p (v5 (by decide) hi) (h.qu hi) (Or.inl (by decide)), fun i hi => p (v5 (by decide) hi) (h.st hi) (Or.inl (by decide)), fun i hi => p (v5 (by decide) hi) (h.hh hi) (Or.inl (by decide)), fun i hi => p (v5 (by decide) hi) (h.vv hi) (Or.inl (by decide))⟩
theorem RC.setQu (h : RC g L c A cr q F H V t la fh fv μ) {i : Nat} (hi : i < 6) (x : Nat → Int32) : RC g L c A cr (fu q i x) F H V t la fh fv (mp μ (L 6 i) (eQu x (L 7 i) (L 8 i) (L 9 i))) :=
  have p := fun {k' i'} {z} => h.put (v5 (k := 6) (by decide) hi) (eQu x (L 7 i) (L 8 i) (L 9 i)) (k' := k') (i' := i') (x := z)
  ⟨h.li, p (v0 (by decide)) h.mn (Or.inl (by decide)), p (v0 (by decide)) h.aA (Or.inl (by decide)), p (v0 (by decide)) h.aQ (Or.inl (by decide)), p (v0 (by decide)) h.mt (Or.inl (by decide)), p (v0 (by decide)) h.fl (Or.inl (by decide)), fun i hi => p (v5 (by decide) hi) (h.ar hi) (Or.inl (by decide)), fun j hj => by
    by_cases e : j = i
    · rw [e, fu_s]; exact mp_s
    · rw [fu_n e]; exact p (v5 (by decide) hj) (h.qu hj) (Or.inr e), fun i hi => p (v5 (by decide) hi) (h.st hi) (Or.inl (by decide)), fun i hi => p (v5 (by decide) hi) (h.hh hi) (Or.inl (by decide)), fun i hi => p (v5 (by decide) hi) (h.vv hi) (Or.inl (by decide))⟩
theorem RC.setSt (h : RC g L c A cr q F H V t la fh fv μ) {i : Nat} (hi : i < 6) (x : Nat → Int32) : RC g L c A cr q (fu F i x) H V t la fh fv (mp μ (L 7 i) (eI g 12 x)) :=
  have p := fun {k' i'} {z} => h.put (v5 (k := 7) (by decide) hi) (eI g 12 x) (k' := k') (i' := i') (x := z)
  ⟨h.li, p (v0 (by decide)) h.mn (Or.inl (by decide)), p (v0 (by decide)) h.aA (Or.inl (by decide)), p (v0 (by decide)) h.aQ (Or.inl (by decide)), p (v0 (by decide)) h.mt (Or.inl (by decide)), p (v0 (by decide)) h.fl (Or.inl (by decide)), fun i hi => p (v5 (by decide) hi) (h.ar hi) (Or.inl (by decide)), fun i hi => p (v5 (by decide) hi) (h.qu hi) (Or.inl (by decide)), fun j hj => by
    by_cases e : j = i
    · rw [e, fu_s]; exact mp_s
    · rw [fu_n e]; exact p (v5 (by decide) hj) (h.st hj) (Or.inr e), fun i hi => p (v5 (by decide) hi) (h.hh hi) (Or.inl (by decide)), fun i hi => p (v5 (by decide) hi) (h.vv hi) (Or.inl (by decide))⟩
theorem RC.setHh (h : RC g L c A cr q F H V t la fh fv μ) {i : Nat} (hi : i < 6) (x : Nat → UInt64) : RC g L c A cr q F (fu H i x) V t la fh fv (mp μ (L 8 i) (eD g 12 x)) :=
  have p := fun {k' i'} {z} => h.put (v5 (k := 8) (by decide) hi) (eD g 12 x) (k' := k') (i' := i') (x := z)
  ⟨h.li, p (v0 (by decide)) h.mn (Or.inl (by decide)), p (v0 (by decide)) h.aA (Or.inl (by decide)), p (v0 (by decide)) h.aQ (Or.inl (by decide)), p (v0 (by decide)) h.mt (Or.inl (by decide)), p (v0 (by decide)) h.fl (Or.inl (by decide)), fun i hi => p (v5 (by decide) hi) (h.ar hi) (Or.inl (by decide)), fun i hi => p (v5 (by decide) hi) (h.qu hi) (Or.inl (by decide)), fun i hi => p (v5 (by decide) hi) (h.st hi) (Or.inl (by decide)), fun j hj => by
    by_cases e : j = i
    · rw [e, fu_s]; exact mp_s
    · rw [fu_n e]; exact p (v5 (by decide) hj) (h.hh hj) (Or.inr e), fun i hi => p (v5 (by decide) hi) (h.vv hi) (Or.inl (by decide))⟩
theorem RC.setVv (h : RC g L c A cr q F H V t la fh fv μ) {i : Nat} (hi : i < 6) (x : Nat → UInt64) : RC g L c A cr q F H (fu V i x) t la fh fv (mp μ (L 9 i) (eD g 12 x)) :=
  have p := fun {k' i'} {z} => h.put (v5 (k := 9) (by decide) hi) (eD g 12 x) (k' := k') (i' := i') (x := z)
  ⟨h.li, p (v0 (by decide)) h.mn (Or.inl (by decide)), p (v0 (by decide)) h.aA (Or.inl (by decide)), p (v0 (by decide)) h.aQ (Or.inl (by decide)), p (v0 (by decide)) h.mt (Or.inl (by decide)), p (v0 (by decide)) h.fl (Or.inl (by decide)), fun i hi => p (v5 (by decide) hi) (h.ar hi) (Or.inl (by decide)), fun i hi => p (v5 (by decide) hi) (h.qu hi) (Or.inl (by decide)), fun i hi => p (v5 (by decide) hi) (h.st hi) (Or.inl (by decide)), fun i hi => p (v5 (by decide) hi) (h.hh hi) (Or.inl (by decide)), fun j hj => by
    by_cases e : j = i
    · rw [e, fu_s]; exact mp_s
    · rw [fu_n e]; exact p (v5 (by decide) hj) (h.vv hj) (Or.inr e)⟩
end RCS
/-- what holds of the state between calls -/
def Iv (nA nQ : Nat) (c : Nat → Int32) (A : Nat → Nat → Int32) (cr : Nat → UInt32) (q F : Nat → Nat → Int32) (H V : Nat → Nat → UInt64) (t : Nat → Int32) (la : UInt64) : Prop :=
  (c 2 = nI nA ∧ nA ≤ 6 ∧ c 3 = nI nQ ∧ nQ ≤ 6) ∧ (10 ≤ (c 4).toInt ∧ (c 4).toInt ≤ 90) ∧ (c 7 = 0 ∨ c 7 = 1) ∧
  (∀ i, i < nA → (20 ≤ (A i 0).toInt ∧ (A i 0).toInt ≤ 60) ∧ CrOk (cr i) ∧ (A i 5 = -1 ∨ ∃ j, j < nQ ∧ A i 5 = nI j)) ∧
  (∀ i, nA ≤ i → i < 6 → A i = (fun k => if k = 5 then -1 else 0) ∧ cr i = 0) ∧
  (∀ j, j < nQ → 200 ≤ (q j 0).toInt ∧ (q j 0).toInt ≤ 600) ∧
  (∀ j, nQ ≤ j → j < 6 → q j = (fun _ => 0) ∧ F j = (fun _ => 0) ∧ H j = (fun _ => 0) ∧ V j = (fun _ => 0)) ∧
  (∀ j, j < 6 → ∀ k, k < 12 → Eb 1412 (H j k) ∧ Eb 1412 (V j k)) ∧ Eb 1900 la ∧
  (t 0 = 0 ∨ (t 0 = 1 ∧ ∃ k i j, k < 4 ∧ t 7 = nI k ∧ i < nA ∧ t 1 = nI i ∧ j < nA ∧ t 2 = nI j ∧ i ≠ j ∧ (t 8 = 0 ∨ (t 8 = 1 ∧ k < 2 ∧ t 5 = 0 ∧ t 6 = 0))))
/-- who has a quiver; how many are stuck -/
def hoF (A : Nat → Nat → Int32) (nA : Nat) (x : Int32) : Int32 := fstN (fun i => decide (A i 5 = x)) nA 0
def skF (F : Nat → Nat → Int32) : Nat → Int32
  | 0 => 0
  | n + 1 => skF F n + bcF (setN (F n) 1 12)
abbrev IOB : String := "java/lang/IndexOutOfBoundsException"
abbrev ISE : String := "java/lang/IllegalStateException"
abbrev IAE : String := "java/lang/IllegalArgumentException"
theorem xb58 : ∀ w ∈ (vx_atS RX4 58 ISE xN).filter (fun w => !goodWord w), w ∈ [Cond.castable ISE ISE] := by decide +kernel
theorem xb180 : ∀ w ∈ (vx_atS RX4 180 IAE xN).filter (fun w => !goodWord w), w ∈ [Cond.castable IAE IAE] := by decide +kernel
theorem xb308 : ∀ w ∈ (vx_atS RX4 308 IOB xN).filter (fun w => !goodWord w), w ∈ [Cond.castable IOB IOB] := by decide +kernel
theorem xo58 : ∀ w ∈ Cond.classLink RX4 54 ISE :: Cond.initialized ISE :: vx_atS RX4 58 ISE xN, vx_ot w = true := by decide +kernel
theorem xo180 : ∀ w ∈ Cond.classLink RX4 176 IAE :: Cond.initialized IAE :: vx_atS RX4 180 IAE xN, vx_ot w = true := by decide +kernel
theorem xo308 : ∀ w ∈ Cond.classLink RX4 304 IOB :: Cond.initialized IOB :: vx_atS RX4 308 IOB xN, vx_ot w = true := by decide +kernel
