/-! ===== the layer of this proof: an abstract heap (addresses to entries), the judgement Aw over it, a row an instruction ===== -/
abbrev mu : Type := Nat → Option va_E
def mp (μ : mu) (a : Nat) (e : va_E) : mu := fun b => if b = a then some e else μ b
theorem mp_s {μ : mu} {a : Nat} {e : va_E} : mp μ a e a = some e := if_pos rfl
theorem mp_n {μ : mu} {a b : Nat} {e : va_E} (h : b ≠ a) : mp μ a e b = μ b := if_neg h
theorem mp_k {μ : mu} {a b : Nat} {e x : va_E} (hb : μ b = some x) (h : b ≠ a) : mp μ a e b = some x := (mp_n h).trans hb
theorem mp_mp {μ : mu} {a : Nat} {e x : va_E} : mp (mp μ a e) a x = mp μ a x := by
  funext b
  unfold mp
  by_cases h : b = a
  · rw [if_pos h, if_pos h]
  · rw [if_neg h, if_neg h, if_neg h]
theorem mp_id {μ : mu} {a : Nat} {e : va_E} (h : μ a = some e) : mp μ a e = μ := by
  funext b
  unfold mp
  by_cases hb : b = a
  · rw [if_pos hb, hb, h]
  · rw [if_neg hb]
theorem mp_comm {μ : mu} {a b : Nat} {e x : va_E} (h : a ≠ b) : mp (mp μ a e) b x = mp (mp μ b x) a e := by
  funext q
  unfold mp
  by_cases h1 : q = b
  · rw [if_pos h1, if_neg (by rw [h1]; exact Ne.symm h), if_pos h1]
  · rw [if_neg h1]
    by_cases h2 : q = a
    · rw [if_pos h2, if_pos h2]
    · rw [if_neg h2, if_neg h2, if_neg h1]
/-- the heap holds the abstract heap; nothing of it is older than z0 -/
def mW (z0 : Nat) (D : va_G) (μ : mu) (H : Heap) : Prop := ∀ (a : Nat) (e : va_E), μ a = some e → va_at D vwCl (a, e) H ∧ z0 ≤ a
theorem mW.P {z0 : Nat} {D : va_G} {μ : mu} {H : Heap} (h : mW z0 D μ H) {a : Nat} {e : va_E} (ha : μ a = some e) : va_P D vwCl [(a, e)] H := by
  intro k q hk
  have hz : k < 1 := (List.getElem?_eq_some_iff.mp hk).1
  rw [show k = 0 by omega] at hk
  cases hk
  exact (h a e ha).1
theorem mW.lt {z0 : Nat} {D : va_G} {μ : mu} {H : Heap} (h : mW z0 D μ H) {a : Nat} {e : va_E} (ha : μ a = some e) : a < H.size := (h a e ha).1.lt
theorem mW.fresh {z0 : Nat} {D : va_G} {μ : mu} {H : Heap} (h : mW z0 D μ H) {a : Nat} (ha : H.size ≤ a) : μ a = none := by
  cases hm : μ a with
  | none => rfl
  | some e => exact absurd (h.lt hm) (Nat.not_lt.mpr ha)
theorem mW.put {z0 : Nat} {D : va_G} {μ : mu} {H H1 : Heap} (h : mW z0 D μ H) {a : Nat} {e : va_E} (he : va_at D vwCl (a, e) H1) (hz : z0 ≤ a) (oq : ∀ q : Nat, q ≠ a → H1[q]? = H[q]?) : mW z0 D (mp μ a e) H1 := by
  intro b x hb
  by_cases hba : b = a
  · subst hba
    rw [mp_s] at hb
    cases hb
    exact ⟨he, hz⟩
  · rw [mp_n hba] at hb
    exact ⟨(h b x hb).1.kept (oq b hba), (h b x hb).2⟩
theorem mW.new {z0 : Nat} {D : va_G} {μ : mu} {H H1 : Heap} (h : mW z0 D μ H) {e : va_E} (he : va_at D vwCl (H.size, e) H1) (hz : z0 ≤ H.size) (oq : ∀ q : Nat, q < H.size → H1[q]? = H[q]?) : mW z0 D (mp μ H.size e) H1 := by
  intro b x hb
  by_cases hba : b = H.size
  · subst hba
    rw [mp_s] at hb
    cases hb
    exact ⟨he, hz⟩
  · rw [mp_n hba] at hb
    exact ⟨(h b x hb).1.kept (oq b (h.lt hb)), (h b x hb).2⟩
theorem mW.drop {z0 : Nat} {D : va_G} {μ μ' : mu} {H : Heap} (h : mW z0 D μ H) (hs : ∀ (a : Nat) (e : va_E), μ' a = some e → μ a = some e) : mW z0 D μ' H := fun a e ha => h a e (hs a e ha)
/-- the start that all goes back to (the law's own): its tables are warm here, its heap is as it was -/
def EN (s0 s : State) : Prop := s0.WarmedH s.vm ∧ s0.heap.size ≤ s.heap.size ∧ ∀ a : Nat, a < s0.heap.size → s.heap[a]? = s0.heap[a]?
/-- locals -/
def lv_lk (lv : List (Nat × Value)) (i : Nat) : Option Value := (lv.find? (fun q => q.1 == i)).map (fun q => q.2)
theorem lv_lk_at {ls : Array Slot} {n : Nat} {lv : List (Nat × Value)} {i : Nat} {v : Value} (h : lv_has ls n lv) (hl : lv_lk lv i = some v) : ls[i]? = some (.val v) := by
  unfold lv_lk at hl
  cases hf : lv.find? (fun q => q.1 == i) with
  | none => rw [hf] at hl; cases hl
  | some q =>
    rw [hf] at hl
    have h1 : q ∈ lv := List.mem_of_find?_eq_some hf
    have h2 : (q.1 == i) = true := List.find?_some (p := fun q : Nat × Value => q.1 == i) hf
    have h3 : q.1 = i := by simpa using h2
    have h4 : q.2 = v := Option.some.inj hl
    rw [← h3, ← h4]
    exact h.2.2 q h1
def lv_s1 (lv : List (Nat × Value)) (i : Nat) (v : Value) : List (Nat × Value) := (i, v) :: lv.filter (fun q => !(q.1 == i) && !(q.1 + 1 == i && q.2.category == 2))
def lv_s2 (lv : List (Nat × Value)) (i : Nat) (v : Value) : List (Nat × Value) := (i, v) :: lv.filter (fun q => !(q.1 == i) && (!(q.1 == i + 1) && !(q.1 + 1 == i && q.2.category == 2)))
def lv_all (lv : List (Nat × Value)) : List (Nat × Value) → Prop
  | [] => True
  | q :: r => lv_lk lv q.1 = some q.2 ∧ lv_all lv r
theorem lv_all_has {ls : Array Slot} {n : Nat} {lv : List (Nat × Value)} (h : lv_has ls n lv) : ∀ lv' : List (Nat × Value), lv_all lv lv' → lv_has ls n lv' := by
  intro lv' ha
  refine ⟨h.1, h.2.1, ?_⟩
  induction lv' with
  | nil => intro q hq; cases hq
  | cons q r ih =>
    intro x hx
    rcases List.mem_cons.mp hx with e | e
    · rw [e]
      exact lv_lk_at h ha.1
    · exact ih ha.2 x e
/-- from every heap that holds μ, this frame comes to Q -/
def Aw (p : Program) (l : Launch) (e : Env) (R : Room) (s : State) (m : MethodId) (args : Array Value) (below : List Frame) (meth : Method) (c : Code) (Q : State → Prop) (z0 : Nat) (D : va_G) (nL : Nat) (μ : mu) (cells slots : Nat) (pc : Nat) (lv : List (Nat × Value)) (st : List Value) : Prop :=
  ∀ (H : Heap) (locs : List Loc) (ls : Array Slot), mW z0 D μ H → va_S (fun q => z0 ≤ q) s.heap H locs → lv_has ls nL lv → W p l e R s m args below meth c H locs cells slots Q (F0 m pc ls st)
/-- the frame's own facts -/
def Cx (p : Program) (s : State) (m : MethodId) (args : Array Value) (meth : Method) (c : Code) (cc : ByteArray) (own : String) (nL : Nat) (Ts : List Cond) (ret : Option FieldType) (z0 : Nat) (D : va_G) (tys : List (ClassId × FieldType)) : Prop :=
  p.tables.exec = Jvm.exec ∧ c.code = cc ∧ c.maxLocals = nL ∧ s.vm.findClass own = some m.cls ∧ (∀ w ∈ Ts, w.before args s = true) ∧ va_K D vwCl tys s ∧ z0 ≤ s.heap.size ∧ meth.locks = false ∧ meth.sig.returnType = ret
/-- a method's start, its ends -/
def mPc (s0 : State) (D : va_G) (tys : List (ClassId × FieldType)) (av : List Value) (μ : mu) : Array Value → State → Prop := va_Pc av (fun U => mW s0.heap.size D μ U.heap ∧ va_K D vwCl tys U ∧ EN s0 U)
def mQc (z0 : Nat) (D : va_G) (post : Option Value → mu → Prop) : Array Value → State → Outcome → State → Prop := fun _ st o t => (∃ (v : Option Value) (μ' : mu), o = .returned v ∧ post v μ' ∧ mW z0 D μ' t.heap) ∧ va_F (fun q => z0 ≤ q) st t
def mXc (z0 : Nat) (D : va_G) (px : String → mu → Prop) : String → State → State → Prop := fun E st t => (∃ μ' : mu, px E μ' ∧ mW z0 D μ' t.heap) ∧ va_F (fun q => z0 ≤ q) st t
/-- a contract of a method that returns -/
def Ct (l : Launch) (y : MethodName) (ws : List Cond) (rm : Room) (s0 : State) (D : va_G) (tys : List (ClassId × FieldType)) (av : List Value) (μ : mu) (mc ms : Nat) (post : Option Value → mu → Prop) : Prop :=
  Met l y ws rm (mPc s0 D tys av μ) (mQc s0.heap.size D post) mc ms (fun q => s0.heap.size ≤ q)
/-- .. that returns or throws -/
def Cy (l : Launch) (y : MethodName) (ws : List Cond) (rm : Room) (s0 : State) (D : va_G) (tys : List (ClassId × FieldType)) (av : List Value) (μ : mu) (mc ms : Nat) (post : Option Value → mu → Prop) (px : String → mu → Prop) : Prop :=
  vx_Met l y ws rm (mPc s0 D tys av μ) (mQc s0.heap.size D post) (mXc s0.heap.size D px) mc ms (fun q => s0.heap.size ≤ q)
abbrev rmOf (f n k lo : Nat) : Room := { frames := f, cells := n, slots := k, locals := lo }
theorem EN.heap {s0 s : State} (h : EN s0 s) {H : Heap} {locs : List Loc} (hS : va_S (fun q => s0.heap.size ≤ q) s.heap H locs) : s0.heap.size ≤ H.size ∧ ∀ a : Nat, a < s0.heap.size → H[a]? = s0.heap[a]? :=
  ⟨Nat.le_trans h.2.1 hS.1, fun a ha => (hS.2.1 a (Nat.lt_of_lt_of_le ha h.2.1) (Nat.not_le.mpr ha)).trans (h.2.2 a ha)⟩
theorem EN.to {s0 s U : State} (h : EN s0 s) {H : Heap} {locs : List Loc} (hS : va_S (fun q => s0.heap.size ≤ q) s.heap H locs) (hU : U.heap = H) (hW : s.WarmedH U.vm) : EN s0 U := by
  obtain ⟨h1, h2⟩ := h.heap hS
  exact ⟨State.WarmedH.trans h.1 hW, by rw [hU]; exact h1, fun a ha => by rw [hU]; exact h2 a ha⟩
theorem mPc.blind {s0 : State} {D : va_G} {tys : List (ClassId × FieldType)} {av : List Value} {μ : mu} : FrameBlind (mPc s0 D tys av μ) := fun a U g mk q => ⟨q.1, q.2.1, va_K.moved (u := U) (U := U.calling g mk a) (Vm.Alike.refl U.vm) q.2.2.1, q.2.2.2⟩
section ROWS
variable {p : Program} {l : Launch} {e : Env} {R : Room} {s : State} {m : MethodId} {args : Array Value} {below : List Frame} {meth : Method} {c : Code} {Q : State → Prop}
variable {z0 : Nat} {D : va_G} {nL : Nat} {μ : mu} {cells slots : Nat} {pc : Nat} {lv : List (Nat × Value)} {st : List Value} {cc : ByteArray} {own : String} {Ts : List Cond} {ret : Option FieldType} {tys : List (ClassId × FieldType)}
theorem aw_iconst (C : Cx p s m args meth c cc own nL Ts ret z0 D tys) {n : Int} {v : Int32} (hv : Int32.ofInt n = v) (hdg : decode cc pc = .ok (.iconst n, 1)) (k : Aw p l e R s m args below meth c Q z0 D nL μ cells slots (pc + 1) lv (.int v :: st)) : Aw p l e R s m args below meth c Q z0 D nL μ cells slots pc lv (st) := fun H locs ls h1 h2 h3 => lv_iconst C.1 C.2.1 hdg hv (k H locs ls h1 h2 h3)
theorem aw_bipush (C : Cx p s m args meth c cc own nL Ts ret z0 D tys) {n : Int} {v : Int32} (hv : (Int8.ofInt n).toInt32 = v) (hdg : decode cc pc = .ok (.bipush n, 2)) (k : Aw p l e R s m args below meth c Q z0 D nL μ cells slots (pc + 2) lv (.int v :: st)) : Aw p l e R s m args below meth c Q z0 D nL μ cells slots pc lv (st) := fun H locs ls h1 h2 h3 => lv_bipush C.1 C.2.1 hdg hv (k H locs ls h1 h2 h3)
theorem aw_sipush (C : Cx p s m args meth c cc own nL Ts ret z0 D tys) {n : Int} {v : Int32} (hv : (Int16.ofInt n).toInt32 = v) (hdg : decode cc pc = .ok (.sipush n, 3)) (k : Aw p l e R s m args below meth c Q z0 D nL μ cells slots (pc + 3) lv (.int v :: st)) : Aw p l e R s m args below meth c Q z0 D nL μ cells slots pc lv (st) := fun H locs ls h1 h2 h3 => lv_sipush C.1 C.2.1 hdg hv (k H locs ls h1 h2 h3)
theorem aw_lconst (C : Cx p s m args meth c cc own nL Ts ret z0 D tys) {n : Fin 2} {v : Int64} (hv : Int64.ofNat (n : Nat) = v) (hdg : decode cc pc = .ok (.lconst n, 1)) (k : Aw p l e R s m args below meth c Q z0 D nL μ cells slots (pc + 1) lv (.long v :: st)) : Aw p l e R s m args below meth c Q z0 D nL μ cells slots pc lv (st) := fun H locs ls h1 h2 h3 => lv_lconst C.1 C.2.1 hdg hv (k H locs ls h1 h2 h3)
theorem aw_dconst0 (C : Cx p s m args meth c cc own nL Ts ret z0 D tys)  (hdg : decode cc pc = .ok (.dconst 0, 1)) (k : Aw p l e R s m args below meth c Q z0 D nL μ cells slots (pc + 1) lv (.double FP.dconst0 :: st)) : Aw p l e R s m args below meth c Q z0 D nL μ cells slots pc lv (st) := fun H locs ls h1 h2 h3 => lv_dconst0 C.1 C.2.1 hdg (k H locs ls h1 h2 h3)
theorem aw_dconst1 (C : Cx p s m args meth c cc own nL Ts ret z0 D tys)  (hdg : decode cc pc = .ok (.dconst 1, 1)) (k : Aw p l e R s m args below meth c Q z0 D nL μ cells slots (pc + 1) lv (.double FP.dconst1 :: st)) : Aw p l e R s m args below meth c Q z0 D nL μ cells slots pc lv (st) := fun H locs ls h1 h2 h3 => lv_dconst1 C.1 C.2.1 hdg (k H locs ls h1 h2 h3)
theorem aw_fconst0 (C : Cx p s m args meth c cc own nL Ts ret z0 D tys)  (hdg : decode cc pc = .ok (.fconst 0, 1)) (k : Aw p l e R s m args below meth c Q z0 D nL μ cells slots (pc + 1) lv (.float FP.fconst0 :: st)) : Aw p l e R s m args below meth c Q z0 D nL μ cells slots pc lv (st) := fun H locs ls h1 h2 h3 => lv_fconst0 C.1 C.2.1 hdg (k H locs ls h1 h2 h3)
theorem aw_null (C : Cx p s m args meth c cc own nL Ts ret z0 D tys)  (hdg : decode cc pc = .ok (.aconst_null, 1)) (k : Aw p l e R s m args below meth c Q z0 D nL μ cells slots (pc + 1) lv (.null :: st)) : Aw p l e R s m args below meth c Q z0 D nL μ cells slots pc lv (st) := fun H locs ls h1 h2 h3 => lv_null C.1 C.2.1 hdg (k H locs ls h1 h2 h3)
theorem aw_iload_n (C : Cx p s m args meth c cc own nL Ts ret z0 D tys) {k : Fin 4} {x : Int32} (hdg : decode cc pc = .ok (.iload_n k, 1)) (hl : lv_lk lv (k : Nat) = some (.int x)) (kk : Aw p l e R s m args below meth c Q z0 D nL μ cells slots (pc + 1) lv (.int x :: st)) : Aw p l e R s m args below meth c Q z0 D nL μ cells slots pc lv st := fun H locs ls h1 h2 h3 => lv_iload_n C.1 C.2.1 hdg rfl (lv_lk_at h3 hl) (kk H locs ls h1 h2 h3)
theorem aw_iload (C : Cx p s m args meth c cc own nL Ts ret z0 D tys) {i : Nat} {x : Int32} (hdg : decode cc pc = .ok (.iload i, 2)) (hl : lv_lk lv i = some (.int x)) (kk : Aw p l e R s m args below meth c Q z0 D nL μ cells slots (pc + 2) lv (.int x :: st)) : Aw p l e R s m args below meth c Q z0 D nL μ cells slots pc lv st := fun H locs ls h1 h2 h3 => lv_iload C.1 C.2.1 hdg (lv_lk_at h3 hl) (kk H locs ls h1 h2 h3)
theorem aw_lload_n (C : Cx p s m args meth c cc own nL Ts ret z0 D tys) {k : Fin 4} {x : Int64} (hdg : decode cc pc = .ok (.lload_n k, 1)) (hl : lv_lk lv (k : Nat) = some (.long x)) (kk : Aw p l e R s m args below meth c Q z0 D nL μ cells slots (pc + 1) lv (.long x :: st)) : Aw p l e R s m args below meth c Q z0 D nL μ cells slots pc lv st := fun H locs ls h1 h2 h3 => lv_lload_n C.1 C.2.1 hdg rfl (lv_lk_at h3 hl) (kk H locs ls h1 h2 h3)
theorem aw_lload (C : Cx p s m args meth c cc own nL Ts ret z0 D tys) {i : Nat} {x : Int64} (hdg : decode cc pc = .ok (.lload i, 2)) (hl : lv_lk lv i = some (.long x)) (kk : Aw p l e R s m args below meth c Q z0 D nL μ cells slots (pc + 2) lv (.long x :: st)) : Aw p l e R s m args below meth c Q z0 D nL μ cells slots pc lv st := fun H locs ls h1 h2 h3 => lv_lload C.1 C.2.1 hdg (lv_lk_at h3 hl) (kk H locs ls h1 h2 h3)
theorem aw_dload_n (C : Cx p s m args meth c cc own nL Ts ret z0 D tys) {k : Fin 4} {x : UInt64} (hdg : decode cc pc = .ok (.dload_n k, 1)) (hl : lv_lk lv (k : Nat) = some (.double x)) (kk : Aw p l e R s m args below meth c Q z0 D nL μ cells slots (pc + 1) lv (.double x :: st)) : Aw p l e R s m args below meth c Q z0 D nL μ cells slots pc lv st := fun H locs ls h1 h2 h3 => lv_dload_n C.1 C.2.1 hdg rfl (lv_lk_at h3 hl) (kk H locs ls h1 h2 h3)
theorem aw_dload (C : Cx p s m args meth c cc own nL Ts ret z0 D tys) {i : Nat} {x : UInt64} (hdg : decode cc pc = .ok (.dload i, 2)) (hl : lv_lk lv i = some (.double x)) (kk : Aw p l e R s m args below meth c Q z0 D nL μ cells slots (pc + 2) lv (.double x :: st)) : Aw p l e R s m args below meth c Q z0 D nL μ cells slots pc lv st := fun H locs ls h1 h2 h3 => lv_dload C.1 C.2.1 hdg (lv_lk_at h3 hl) (kk H locs ls h1 h2 h3)
theorem aw_fload_n (C : Cx p s m args meth c cc own nL Ts ret z0 D tys) {k : Fin 4} {x : UInt32} (hdg : decode cc pc = .ok (.fload_n k, 1)) (hl : lv_lk lv (k : Nat) = some (.float x)) (kk : Aw p l e R s m args below meth c Q z0 D nL μ cells slots (pc + 1) lv (.float x :: st)) : Aw p l e R s m args below meth c Q z0 D nL μ cells slots pc lv st := fun H locs ls h1 h2 h3 => lv_fload_n C.1 C.2.1 hdg rfl (lv_lk_at h3 hl) (kk H locs ls h1 h2 h3)
theorem aw_fload (C : Cx p s m args meth c cc own nL Ts ret z0 D tys) {i : Nat} {x : UInt32} (hdg : decode cc pc = .ok (.fload i, 2)) (hl : lv_lk lv i = some (.float x)) (kk : Aw p l e R s m args below meth c Q z0 D nL μ cells slots (pc + 2) lv (.float x :: st)) : Aw p l e R s m args below meth c Q z0 D nL μ cells slots pc lv st := fun H locs ls h1 h2 h3 => lv_fload C.1 C.2.1 hdg (lv_lk_at h3 hl) (kk H locs ls h1 h2 h3)
theorem aw_aload_n (C : Cx p s m args meth c cc own nL Ts ret z0 D tys) {k : Fin 4} {x : Nat} (hdg : decode cc pc = .ok (.aload_n k, 1)) (hl : lv_lk lv (k : Nat) = some (.ref x)) (kk : Aw p l e R s m args below meth c Q z0 D nL μ cells slots (pc + 1) lv (.ref x :: st)) : Aw p l e R s m args below meth c Q z0 D nL μ cells slots pc lv st := fun H locs ls h1 h2 h3 => lv_aload_n C.1 C.2.1 hdg rfl (lv_lk_at h3 hl) (kk H locs ls h1 h2 h3)
theorem aw_aload (C : Cx p s m args meth c cc own nL Ts ret z0 D tys) {i : Nat} {x : Nat} (hdg : decode cc pc = .ok (.aload i, 2)) (hl : lv_lk lv i = some (.ref x)) (kk : Aw p l e R s m args below meth c Q z0 D nL μ cells slots (pc + 2) lv (.ref x :: st)) : Aw p l e R s m args below meth c Q z0 D nL μ cells slots pc lv st := fun H locs ls h1 h2 h3 => lv_aload C.1 C.2.1 hdg (lv_lk_at h3 hl) (kk H locs ls h1 h2 h3)
theorem aw_istore_n (C : Cx p s m args meth c cc own nL Ts ret z0 D tys) {k : Fin 4} {x : Int32} (hdg : decode cc pc = .ok (.istore_n k, 1)) (hn : (k : Nat) < nL) (kk : Aw p l e R s m args below meth c Q z0 D nL μ cells slots (pc + 1) (lv_s1 lv (k : Nat) (.int x)) st) : Aw p l e R s m args below meth c Q z0 D nL μ cells slots pc lv (.int x :: st) := fun H locs ls h1 h2 h3 => lv_istore_n C.1 C.2.1 hdg rfl h3 hn rfl (fun ls h3 => kk H locs ls h1 h2 h3)
theorem aw_istore (C : Cx p s m args meth c cc own nL Ts ret z0 D tys) {i : Nat} {x : Int32} (hdg : decode cc pc = .ok (.istore i, 2)) (hn : i < nL) (kk : Aw p l e R s m args below meth c Q z0 D nL μ cells slots (pc + 2) (lv_s1 lv i (.int x)) st) : Aw p l e R s m args below meth c Q z0 D nL μ cells slots pc lv (.int x :: st) := fun H locs ls h1 h2 h3 => lv_istore C.1 C.2.1 hdg h3 hn rfl (fun ls h3 => kk H locs ls h1 h2 h3)
theorem aw_lstore_n (C : Cx p s m args meth c cc own nL Ts ret z0 D tys) {k : Fin 4} {x : Int64} (hdg : decode cc pc = .ok (.lstore_n k, 1)) (hn : (k : Nat) + 1 < nL) (kk : Aw p l e R s m args below meth c Q z0 D nL μ cells slots (pc + 1) (lv_s2 lv (k : Nat) (.long x)) st) : Aw p l e R s m args below meth c Q z0 D nL μ cells slots pc lv (.long x :: st) := fun H locs ls h1 h2 h3 => lv_lstore_n C.1 C.2.1 hdg rfl h3 hn rfl (fun ls h3 => kk H locs ls h1 h2 h3)
theorem aw_lstore (C : Cx p s m args meth c cc own nL Ts ret z0 D tys) {i : Nat} {x : Int64} (hdg : decode cc pc = .ok (.lstore i, 2)) (hn : i + 1 < nL) (kk : Aw p l e R s m args below meth c Q z0 D nL μ cells slots (pc + 2) (lv_s2 lv i (.long x)) st) : Aw p l e R s m args below meth c Q z0 D nL μ cells slots pc lv (.long x :: st) := fun H locs ls h1 h2 h3 => lv_lstore C.1 C.2.1 hdg h3 hn rfl (fun ls h3 => kk H locs ls h1 h2 h3)
theorem aw_dstore_n (C : Cx p s m args meth c cc own nL Ts ret z0 D tys) {k : Fin 4} {x : UInt64} (hdg : decode cc pc = .ok (.dstore_n k, 1)) (hn : (k : Nat) + 1 < nL) (kk : Aw p l e R s m args below meth c Q z0 D nL μ cells slots (pc + 1) (lv_s2 lv (k : Nat) (.double x)) st) : Aw p l e R s m args below meth c Q z0 D nL μ cells slots pc lv (.double x :: st) := fun H locs ls h1 h2 h3 => lv_dstore_n C.1 C.2.1 hdg rfl h3 hn rfl (fun ls h3 => kk H locs ls h1 h2 h3)
theorem aw_dstore (C : Cx p s m args meth c cc own nL Ts ret z0 D tys) {i : Nat} {x : UInt64} (hdg : decode cc pc = .ok (.dstore i, 2)) (hn : i + 1 < nL) (kk : Aw p l e R s m args below meth c Q z0 D nL μ cells slots (pc + 2) (lv_s2 lv i (.double x)) st) : Aw p l e R s m args below meth c Q z0 D nL μ cells slots pc lv (.double x :: st) := fun H locs ls h1 h2 h3 => lv_dstore C.1 C.2.1 hdg h3 hn rfl (fun ls h3 => kk H locs ls h1 h2 h3)
theorem aw_fstore_n (C : Cx p s m args meth c cc own nL Ts ret z0 D tys) {k : Fin 4} {x : UInt32} (hdg : decode cc pc = .ok (.fstore_n k, 1)) (hn : (k : Nat) < nL) (kk : Aw p l e R s m args below meth c Q z0 D nL μ cells slots (pc + 1) (lv_s1 lv (k : Nat) (.float x)) st) : Aw p l e R s m args below meth c Q z0 D nL μ cells slots pc lv (.float x :: st) := fun H locs ls h1 h2 h3 => lv_fstore_n C.1 C.2.1 hdg rfl h3 hn rfl (fun ls h3 => kk H locs ls h1 h2 h3)
theorem aw_fstore (C : Cx p s m args meth c cc own nL Ts ret z0 D tys) {i : Nat} {x : UInt32} (hdg : decode cc pc = .ok (.fstore i, 2)) (hn : i < nL) (kk : Aw p l e R s m args below meth c Q z0 D nL μ cells slots (pc + 2) (lv_s1 lv i (.float x)) st) : Aw p l e R s m args below meth c Q z0 D nL μ cells slots pc lv (.float x :: st) := fun H locs ls h1 h2 h3 => lv_fstore C.1 C.2.1 hdg h3 hn rfl (fun ls h3 => kk H locs ls h1 h2 h3)
theorem aw_astore_n (C : Cx p s m args meth c cc own nL Ts ret z0 D tys) {k : Fin 4} {x : Nat} (hdg : decode cc pc = .ok (.astore_n k, 1)) (hn : (k : Nat) < nL) (kk : Aw p l e R s m args below meth c Q z0 D nL μ cells slots (pc + 1) (lv_s1 lv (k : Nat) (.ref x)) st) : Aw p l e R s m args below meth c Q z0 D nL μ cells slots pc lv (.ref x :: st) := fun H locs ls h1 h2 h3 => lv_astore_n C.1 C.2.1 hdg rfl h3 hn rfl (fun ls h3 => kk H locs ls h1 h2 h3)
theorem aw_astore (C : Cx p s m args meth c cc own nL Ts ret z0 D tys) {i : Nat} {x : Nat} (hdg : decode cc pc = .ok (.astore i, 2)) (hn : i < nL) (kk : Aw p l e R s m args below meth c Q z0 D nL μ cells slots (pc + 2) (lv_s1 lv i (.ref x)) st) : Aw p l e R s m args below meth c Q z0 D nL μ cells slots pc lv (.ref x :: st) := fun H locs ls h1 h2 h3 => lv_astore C.1 C.2.1 hdg h3 hn rfl (fun ls h3 => kk H locs ls h1 h2 h3)
theorem aw_iinc (C : Cx p s m args meth c cc own nL Ts ret z0 D tys) {i : Nat} {n : Int} {x : Int32} (hdg : decode cc pc = .ok (.iinc i n, 3)) (hl : lv_lk lv i = some (.int x)) (hn : i < nL) (kk : Aw p l e R s m args below meth c Q z0 D nL μ cells slots (pc + 3) (lv_s1 lv i (.int (x + Int32.ofInt n))) st) : Aw p l e R s m args below meth c Q z0 D nL μ cells slots pc lv st := by
  intro H locs ls h1 h2 h3
  have h4 : lv_has ls nL ((i, Value.int x) :: lv) := ⟨h3.1, h3.2.1, fun q hq => by
    rcases List.mem_cons.mp hq with e | e
    · rw [e]; exact lv_lk_at h3 hl
    · exact h3.2.2 q e⟩
  refine lv_iinc (k := 0) C.1 C.2.1 hdg h4 rfl rfl hn rfl (fun ls' h5 => kk H locs ls' h1 h2 ?_)
  refine ⟨h5.1, h5.2.1, fun q hq => h5.2.2 q ?_⟩
  unfold lv_s1 at hq
  simp only [List.filter_cons]
  rcases List.mem_cons.mp hq with e | e
  · rw [e]; exact List.mem_cons_self
  · refine List.mem_cons_of_mem _ ?_
    split
    · exact List.mem_cons_of_mem _ e
    · exact e
theorem aw_iadd (C : Cx p s m args meth c cc own nL Ts ret z0 D tys) {x : Int32} {y : Int32} (hdg : decode cc pc = .ok (.iadd, 1)) (k : Aw p l e R s m args below meth c Q z0 D nL μ cells slots (pc + 1) lv (.int (x + y) :: st)) : Aw p l e R s m args below meth c Q z0 D nL μ cells slots pc lv (.int y :: .int x :: st) := fun H locs ls h1 h2 h3 => lv_iadd C.1 C.2.1 hdg (k H locs ls h1 h2 h3)
theorem aw_isub (C : Cx p s m args meth c cc own nL Ts ret z0 D tys) {x : Int32} {y : Int32} (hdg : decode cc pc = .ok (.isub, 1)) (k : Aw p l e R s m args below meth c Q z0 D nL μ cells slots (pc + 1) lv (.int (x - y) :: st)) : Aw p l e R s m args below meth c Q z0 D nL μ cells slots pc lv (.int y :: .int x :: st) := fun H locs ls h1 h2 h3 => lv_isub C.1 C.2.1 hdg (k H locs ls h1 h2 h3)
theorem aw_imul (C : Cx p s m args meth c cc own nL Ts ret z0 D tys) {x : Int32} {y : Int32} (hdg : decode cc pc = .ok (.imul, 1)) (k : Aw p l e R s m args below meth c Q z0 D nL μ cells slots (pc + 1) lv (.int (x * y) :: st)) : Aw p l e R s m args below meth c Q z0 D nL μ cells slots pc lv (.int y :: .int x :: st) := fun H locs ls h1 h2 h3 => lv_imul C.1 C.2.1 hdg (k H locs ls h1 h2 h3)
theorem aw_idiv (C : Cx p s m args meth c cc own nL Ts ret z0 D tys) {x : Int32} {y : Int32} (hne : ¬ y = 0) (hdg : decode cc pc = .ok (.idiv, 1)) (k : Aw p l e R s m args below meth c Q z0 D nL μ cells slots (pc + 1) lv (.int (x / y) :: st)) : Aw p l e R s m args below meth c Q z0 D nL μ cells slots pc lv (.int y :: .int x :: st) := fun H locs ls h1 h2 h3 => lv_idiv C.1 C.2.1 hdg hne (k H locs ls h1 h2 h3)
theorem aw_irem (C : Cx p s m args meth c cc own nL Ts ret z0 D tys) {x : Int32} {y : Int32} (hne : ¬ y = 0) (hdg : decode cc pc = .ok (.irem, 1)) (k : Aw p l e R s m args below meth c Q z0 D nL μ cells slots (pc + 1) lv (.int (x - x / y * y) :: st)) : Aw p l e R s m args below meth c Q z0 D nL μ cells slots pc lv (.int y :: .int x :: st) := fun H locs ls h1 h2 h3 => lv_irem C.1 C.2.1 hdg hne (k H locs ls h1 h2 h3)
theorem aw_iand (C : Cx p s m args meth c cc own nL Ts ret z0 D tys) {x : Int32} {y : Int32} (hdg : decode cc pc = .ok (.iand, 1)) (k : Aw p l e R s m args below meth c Q z0 D nL μ cells slots (pc + 1) lv (.int (x &&& y) :: st)) : Aw p l e R s m args below meth c Q z0 D nL μ cells slots pc lv (.int y :: .int x :: st) := fun H locs ls h1 h2 h3 => lv_iand C.1 C.2.1 hdg (k H locs ls h1 h2 h3)
theorem aw_ior (C : Cx p s m args meth c cc own nL Ts ret z0 D tys) {x : Int32} {y : Int32} (hdg : decode cc pc = .ok (.ior, 1)) (k : Aw p l e R s m args below meth c Q z0 D nL μ cells slots (pc + 1) lv (.int (x ||| y) :: st)) : Aw p l e R s m args below meth c Q z0 D nL μ cells slots pc lv (.int y :: .int x :: st) := fun H locs ls h1 h2 h3 => lv_ior C.1 C.2.1 hdg (k H locs ls h1 h2 h3)
theorem aw_ishl (C : Cx p s m args meth c cc own nL Ts ret z0 D tys) {x : Int32} {y : Int32} (hdg : decode cc pc = .ok (.ishl, 1)) (k : Aw p l e R s m args below meth c Q z0 D nL μ cells slots (pc + 1) lv (.int (x <<< (y &&& 31)) :: st)) : Aw p l e R s m args below meth c Q z0 D nL μ cells slots pc lv (.int y :: .int x :: st) := fun H locs ls h1 h2 h3 => lv_ishl C.1 C.2.1 hdg (k H locs ls h1 h2 h3)
theorem aw_ishr (C : Cx p s m args meth c cc own nL Ts ret z0 D tys) {x : Int32} {y : Int32} (hdg : decode cc pc = .ok (.ishr, 1)) (k : Aw p l e R s m args below meth c Q z0 D nL μ cells slots (pc + 1) lv (.int (x >>> (y &&& 31)) :: st)) : Aw p l e R s m args below meth c Q z0 D nL μ cells slots pc lv (.int y :: .int x :: st) := fun H locs ls h1 h2 h3 => lv_ishr C.1 C.2.1 hdg (k H locs ls h1 h2 h3)
theorem aw_ladd (C : Cx p s m args meth c cc own nL Ts ret z0 D tys) {x : Int64} {y : Int64} (hdg : decode cc pc = .ok (.ladd, 1)) (k : Aw p l e R s m args below meth c Q z0 D nL μ cells slots (pc + 1) lv (.long (x + y) :: st)) : Aw p l e R s m args below meth c Q z0 D nL μ cells slots pc lv (.long y :: .long x :: st) := fun H locs ls h1 h2 h3 => lv_ladd C.1 C.2.1 hdg (k H locs ls h1 h2 h3)
theorem aw_lmul (C : Cx p s m args meth c cc own nL Ts ret z0 D tys) {x : Int64} {y : Int64} (hdg : decode cc pc = .ok (.lmul, 1)) (k : Aw p l e R s m args below meth c Q z0 D nL μ cells slots (pc + 1) lv (.long (x * y) :: st)) : Aw p l e R s m args below meth c Q z0 D nL μ cells slots pc lv (.long y :: .long x :: st) := fun H locs ls h1 h2 h3 => lv_lmul C.1 C.2.1 hdg (k H locs ls h1 h2 h3)
theorem aw_land (C : Cx p s m args meth c cc own nL Ts ret z0 D tys) {x : Int64} {y : Int64} (hdg : decode cc pc = .ok (.land, 1)) (k : Aw p l e R s m args below meth c Q z0 D nL μ cells slots (pc + 1) lv (.long (x &&& y) :: st)) : Aw p l e R s m args below meth c Q z0 D nL μ cells slots pc lv (.long y :: .long x :: st) := fun H locs ls h1 h2 h3 => lv_land C.1 C.2.1 hdg (k H locs ls h1 h2 h3)
theorem aw_dadd (C : Cx p s m args meth c cc own nL Ts ret z0 D tys) {x : UInt64} {y : UInt64} (hne : vf_n64 (FP.dadd x y)) (hdg : decode cc pc = .ok (.dadd, 1)) (k : Aw p l e R s m args below meth c Q z0 D nL μ cells slots (pc + 1) lv (.double (FP.dadd x y) :: st)) : Aw p l e R s m args below meth c Q z0 D nL μ cells slots pc lv (.double y :: .double x :: st) := fun H locs ls h1 h2 h3 => lv_dadd C.1 C.2.1 hdg hne (k H locs ls h1 h2 h3)
theorem aw_dsub (C : Cx p s m args meth c cc own nL Ts ret z0 D tys) {x : UInt64} {y : UInt64} (hne : vf_n64 (FP.dsub x y)) (hdg : decode cc pc = .ok (.dsub, 1)) (k : Aw p l e R s m args below meth c Q z0 D nL μ cells slots (pc + 1) lv (.double (FP.dsub x y) :: st)) : Aw p l e R s m args below meth c Q z0 D nL μ cells slots pc lv (.double y :: .double x :: st) := fun H locs ls h1 h2 h3 => lv_dsub C.1 C.2.1 hdg hne (k H locs ls h1 h2 h3)
theorem aw_dmul (C : Cx p s m args meth c cc own nL Ts ret z0 D tys) {x : UInt64} {y : UInt64} (hne : vf_n64 (FP.dmul x y)) (hdg : decode cc pc = .ok (.dmul, 1)) (k : Aw p l e R s m args below meth c Q z0 D nL μ cells slots (pc + 1) lv (.double (FP.dmul x y) :: st)) : Aw p l e R s m args below meth c Q z0 D nL μ cells slots pc lv (.double y :: .double x :: st) := fun H locs ls h1 h2 h3 => lv_dmul C.1 C.2.1 hdg hne (k H locs ls h1 h2 h3)
theorem aw_ddiv (C : Cx p s m args meth c cc own nL Ts ret z0 D tys) {x : UInt64} {y : UInt64} (hne : vf_n64 (FP.ddiv x y)) (hdg : decode cc pc = .ok (.ddiv, 1)) (k : Aw p l e R s m args below meth c Q z0 D nL μ cells slots (pc + 1) lv (.double (FP.ddiv x y) :: st)) : Aw p l e R s m args below meth c Q z0 D nL μ cells slots pc lv (.double y :: .double x :: st) := fun H locs ls h1 h2 h3 => lv_ddiv C.1 C.2.1 hdg hne (k H locs ls h1 h2 h3)
theorem aw_fadd (C : Cx p s m args meth c cc own nL Ts ret z0 D tys) {x : UInt32} {y : UInt32} (hne : vf_n32 (FP.fadd x y)) (hdg : decode cc pc = .ok (.fadd, 1)) (k : Aw p l e R s m args below meth c Q z0 D nL μ cells slots (pc + 1) lv (.float (FP.fadd x y) :: st)) : Aw p l e R s m args below meth c Q z0 D nL μ cells slots pc lv (.float y :: .float x :: st) := fun H locs ls h1 h2 h3 => lv_fadd C.1 C.2.1 hdg hne (k H locs ls h1 h2 h3)
theorem aw_dneg (C : Cx p s m args meth c cc own nL Ts ret z0 D tys) {x : UInt64} (hdg : decode cc pc = .ok (.dneg, 1)) (k : Aw p l e R s m args below meth c Q z0 D nL μ cells slots (pc + 1) lv (.double (FP.dneg x) :: st)) : Aw p l e R s m args below meth c Q z0 D nL μ cells slots pc lv (.double x :: st) := fun H locs ls h1 h2 h3 => lv_dneg C.1 C.2.1 hdg (k H locs ls h1 h2 h3)
theorem aw_i2l (C : Cx p s m args meth c cc own nL Ts ret z0 D tys) {x : Int32} (hdg : decode cc pc = .ok (.i2l, 1)) (k : Aw p l e R s m args below meth c Q z0 D nL μ cells slots (pc + 1) lv (.long x.toInt64 :: st)) : Aw p l e R s m args below meth c Q z0 D nL μ cells slots pc lv (.int x :: st) := fun H locs ls h1 h2 h3 => lv_i2l C.1 C.2.1 hdg rfl (k H locs ls h1 h2 h3)
theorem aw_i2d (C : Cx p s m args meth c cc own nL Ts ret z0 D tys) {x : Int32} (hdg : decode cc pc = .ok (.i2d, 1)) (k : Aw p l e R s m args below meth c Q z0 D nL μ cells slots (pc + 1) lv (.double (FP.i2d x) :: st)) : Aw p l e R s m args below meth c Q z0 D nL μ cells slots pc lv (.int x :: st) := fun H locs ls h1 h2 h3 => lv_i2d C.1 C.2.1 hdg (k H locs ls h1 h2 h3)
theorem aw_d2l (C : Cx p s m args meth c cc own nL Ts ret z0 D tys) {x : UInt64} (hdg : decode cc pc = .ok (.d2l, 1)) (k : Aw p l e R s m args below meth c Q z0 D nL μ cells slots (pc + 1) lv (.long (FP.d2l x) :: st)) : Aw p l e R s m args below meth c Q z0 D nL μ cells slots pc lv (.double x :: st) := fun H locs ls h1 h2 h3 => lv_d2l C.1 C.2.1 hdg (k H locs ls h1 h2 h3)
theorem aw_f2d (C : Cx p s m args meth c cc own nL Ts ret z0 D tys) {x : UInt32} (hne : vf_n64 (FP.f2d x)) (hdg : decode cc pc = .ok (.f2d, 1)) (k : Aw p l e R s m args below meth c Q z0 D nL μ cells slots (pc + 1) lv (.double (FP.f2d x) :: st)) : Aw p l e R s m args below meth c Q z0 D nL μ cells slots pc lv (.float x :: st) := fun H locs ls h1 h2 h3 => lv_f2d C.1 C.2.1 hdg hne (k H locs ls h1 h2 h3)
theorem aw_dcmp (C : Cx p s m args meth c cc own nL Ts ret z0 D tys) {x y : UInt64} {op : CmpOp} (hdg : decode cc pc = .ok (.dcmp op, 1)) (k : Aw p l e R s m args below meth c Q z0 D nL μ cells slots (pc + 1) lv (.int (Op.cmpValue (FP.dcmp x y) op) :: st)) : Aw p l e R s m args below meth c Q z0 D nL μ cells slots pc lv (.double y :: .double x :: st) := fun H locs ls h1 h2 h3 => lv_dcmp C.1 C.2.1 hdg (k H locs ls h1 h2 h3)
theorem aw_fcmp (C : Cx p s m args meth c cc own nL Ts ret z0 D tys) {x y : UInt32} {op : CmpOp} (hdg : decode cc pc = .ok (.fcmp op, 1)) (k : Aw p l e R s m args below meth c Q z0 D nL μ cells slots (pc + 1) lv (.int (Op.cmpValue (FP.fcmp x y) op) :: st)) : Aw p l e R s m args below meth c Q z0 D nL μ cells slots pc lv (.float y :: .float x :: st) := fun H locs ls h1 h2 h3 => lv_fcmp C.1 C.2.1 hdg (k H locs ls h1 h2 h3)
theorem aw_dup (C : Cx p s m args meth c cc own nL Ts ret z0 D tys) {v : Value} (hv : v.category = 1) (hdg : decode cc pc = .ok (.dup, 1)) (k : Aw p l e R s m args below meth c Q z0 D nL μ cells slots (pc + 1) lv (v :: v :: st)) : Aw p l e R s m args below meth c Q z0 D nL μ cells slots pc lv (v :: st) := fun H locs ls h1 h2 h3 => lv_dup C.1 C.2.1 hdg hv (k H locs ls h1 h2 h3)
theorem aw_pop (C : Cx p s m args meth c cc own nL Ts ret z0 D tys) {v : Value} (hv : v.category = 1) (hdg : decode cc pc = .ok (.pop, 1)) (k : Aw p l e R s m args below meth c Q z0 D nL μ cells slots (pc + 1) lv (st)) : Aw p l e R s m args below meth c Q z0 D nL μ cells slots pc lv (v :: st) := fun H locs ls h1 h2 h3 => lv_pop C.1 C.2.1 hdg hv (k H locs ls h1 h2 h3)
theorem aw_dup_x1 (C : Cx p s m args meth c cc own nL Ts ret z0 D tys) {v u : Value} (hv : v.category = 1) (hu : u.category = 1) (hdg : decode cc pc = .ok (.dup_x1, 1)) (k : Aw p l e R s m args below meth c Q z0 D nL μ cells slots (pc + 1) lv (v :: u :: v :: st)) : Aw p l e R s m args below meth c Q z0 D nL μ cells slots pc lv (v :: u :: st) := fun H locs ls h1 h2 h3 => lv_dup_x1 C.1 C.2.1 hdg hv hu (k H locs ls h1 h2 h3)
theorem aw_dup2 (C : Cx p s m args meth c cc own nL Ts ret z0 D tys) {v u : Value} (hv : v.category = 1) (hu : u.category = 1) (hdg : decode cc pc = .ok (.dup2, 1)) (k : Aw p l e R s m args below meth c Q z0 D nL μ cells slots (pc + 1) lv (v :: u :: v :: u :: st)) : Aw p l e R s m args below meth c Q z0 D nL μ cells slots pc lv (v :: u :: st) := fun H locs ls h1 h2 h3 => lv_dup2_11 C.1 C.2.1 hdg hv hu (k H locs ls h1 h2 h3)
theorem aw_ldc (C : Cx p s m args meth c cc own nL Ts ret z0 D tys) {index : Nat} {v : Int32} (hc : Cond.constant own index v ∈ Ts) (hdg : decode cc pc = .ok (.ldc index, 2)) (k : Aw p l e R s m args below meth c Q z0 D nL μ cells slots (pc + 2) lv (.int v :: st)) : Aw p l e R s m args below meth c Q z0 D nL μ cells slots pc lv (st) := fun H locs ls h1 h2 h3 => lv_ldc C.1 C.2.1 C.2.2.2.1 (C.2.2.2.2.1 _ hc) hdg (k H locs ls h1 h2 h3)
theorem aw_ldcf (C : Cx p s m args meth c cc own nL Ts ret z0 D tys) {index : Nat} {v : UInt32} (hc : Cond.constantFloat own index v ∈ Ts) (hdg : decode cc pc = .ok (.ldc index, 2)) (k : Aw p l e R s m args below meth c Q z0 D nL μ cells slots (pc + 2) lv (.float v :: st)) : Aw p l e R s m args below meth c Q z0 D nL μ cells slots pc lv (st) := fun H locs ls h1 h2 h3 => lv_ldcf C.1 C.2.1 C.2.2.2.1 (C.2.2.2.2.1 _ hc) hdg (k H locs ls h1 h2 h3)
theorem aw_ldc2d (C : Cx p s m args meth c cc own nL Ts ret z0 D tys) {index : Nat} {v : UInt64} (hc : Cond.constantDouble own index v ∈ Ts) (hdg : decode cc pc = .ok (.ldc2_w index, 3)) (k : Aw p l e R s m args below meth c Q z0 D nL μ cells slots (pc + 3) lv (.double v :: st)) : Aw p l e R s m args below meth c Q z0 D nL μ cells slots pc lv (st) := fun H locs ls h1 h2 h3 => lv_ldc2d C.1 C.2.1 C.2.2.2.1 (C.2.2.2.2.1 _ hc) hdg (k H locs ls h1 h2 h3)
theorem aw_ldc2 (C : Cx p s m args meth c cc own nL Ts ret z0 D tys) {index : Nat} {v : Int64} (hc : Cond.constantLong own index v ∈ Ts) (hdg : decode cc pc = .ok (.ldc2_w index, 3)) (k : Aw p l e R s m args below meth c Q z0 D nL μ cells slots (pc + 3) lv (.long v :: st)) : Aw p l e R s m args below meth c Q z0 D nL μ cells slots pc lv (st) := fun H locs ls h1 h2 h3 => lv_ldc2 C.1 C.2.1 C.2.2.2.1 (C.2.2.2.2.1 _ hc) hdg (k H locs ls h1 h2 h3)
theorem aw_if_eq (C : Cx p s m args meth c cc own nL Ts ret z0 D tys) {x : Int32} {off : Int} {tgt : Nat} (hdg : decode cc pc = .ok (.ifCond .eq off, 3)) (ht : (pc : Int) + off = (tgt : Int)) (kt : x = 0 → Aw p l e R s m args below meth c Q z0 D nL μ cells slots tgt lv st) (kf : ¬ x = 0 → Aw p l e R s m args below meth c Q z0 D nL μ cells slots (pc + 3) lv st) : Aw p l e R s m args below meth c Q z0 D nL μ cells slots pc lv (.int x :: st) := fun H locs ls h1 h2 h3 => lv_if_eq C.1 C.2.1 hdg ht (fun q => kt q H locs ls h1 h2 h3) (fun q => kf q H locs ls h1 h2 h3)
theorem aw_icmp_eq (C : Cx p s m args meth c cc own nL Ts ret z0 D tys) {x y : Int32} {off : Int} {tgt : Nat} (hdg : decode cc pc = .ok (.if_icmp .eq off, 3)) (ht : (pc : Int) + off = (tgt : Int)) (kt : x = y → Aw p l e R s m args below meth c Q z0 D nL μ cells slots tgt lv st) (kf : ¬ x = y → Aw p l e R s m args below meth c Q z0 D nL μ cells slots (pc + 3) lv st) : Aw p l e R s m args below meth c Q z0 D nL μ cells slots pc lv (.int y :: .int x :: st) := fun H locs ls h1 h2 h3 => lv_icmp_eq C.1 C.2.1 hdg ht (fun q => kt q H locs ls h1 h2 h3) (fun q => kf q H locs ls h1 h2 h3)
theorem aw_if_ne (C : Cx p s m args meth c cc own nL Ts ret z0 D tys) {x : Int32} {off : Int} {tgt : Nat} (hdg : decode cc pc = .ok (.ifCond .ne off, 3)) (ht : (pc : Int) + off = (tgt : Int)) (kt : ¬ x = 0 → Aw p l e R s m args below meth c Q z0 D nL μ cells slots tgt lv st) (kf : x = 0 → Aw p l e R s m args below meth c Q z0 D nL μ cells slots (pc + 3) lv st) : Aw p l e R s m args below meth c Q z0 D nL μ cells slots pc lv (.int x :: st) := fun H locs ls h1 h2 h3 => lv_if_ne C.1 C.2.1 hdg ht (fun q => kt q H locs ls h1 h2 h3) (fun q => kf q H locs ls h1 h2 h3)
theorem aw_icmp_ne (C : Cx p s m args meth c cc own nL Ts ret z0 D tys) {x y : Int32} {off : Int} {tgt : Nat} (hdg : decode cc pc = .ok (.if_icmp .ne off, 3)) (ht : (pc : Int) + off = (tgt : Int)) (kt : ¬ x = y → Aw p l e R s m args below meth c Q z0 D nL μ cells slots tgt lv st) (kf : x = y → Aw p l e R s m args below meth c Q z0 D nL μ cells slots (pc + 3) lv st) : Aw p l e R s m args below meth c Q z0 D nL μ cells slots pc lv (.int y :: .int x :: st) := fun H locs ls h1 h2 h3 => lv_icmp_ne C.1 C.2.1 hdg ht (fun q => kt q H locs ls h1 h2 h3) (fun q => kf q H locs ls h1 h2 h3)
theorem aw_if_lt (C : Cx p s m args meth c cc own nL Ts ret z0 D tys) {x : Int32} {off : Int} {tgt : Nat} (hdg : decode cc pc = .ok (.ifCond .lt off, 3)) (ht : (pc : Int) + off = (tgt : Int)) (kt : x < 0 → Aw p l e R s m args below meth c Q z0 D nL μ cells slots tgt lv st) (kf : ¬ x < 0 → Aw p l e R s m args below meth c Q z0 D nL μ cells slots (pc + 3) lv st) : Aw p l e R s m args below meth c Q z0 D nL μ cells slots pc lv (.int x :: st) := fun H locs ls h1 h2 h3 => lv_if_lt C.1 C.2.1 hdg ht (fun q => kt q H locs ls h1 h2 h3) (fun q => kf q H locs ls h1 h2 h3)
theorem aw_icmp_lt (C : Cx p s m args meth c cc own nL Ts ret z0 D tys) {x y : Int32} {off : Int} {tgt : Nat} (hdg : decode cc pc = .ok (.if_icmp .lt off, 3)) (ht : (pc : Int) + off = (tgt : Int)) (kt : x < y → Aw p l e R s m args below meth c Q z0 D nL μ cells slots tgt lv st) (kf : ¬ x < y → Aw p l e R s m args below meth c Q z0 D nL μ cells slots (pc + 3) lv st) : Aw p l e R s m args below meth c Q z0 D nL μ cells slots pc lv (.int y :: .int x :: st) := fun H locs ls h1 h2 h3 => lv_icmp_lt C.1 C.2.1 hdg ht (fun q => kt q H locs ls h1 h2 h3) (fun q => kf q H locs ls h1 h2 h3)
theorem aw_if_ge (C : Cx p s m args meth c cc own nL Ts ret z0 D tys) {x : Int32} {off : Int} {tgt : Nat} (hdg : decode cc pc = .ok (.ifCond .ge off, 3)) (ht : (pc : Int) + off = (tgt : Int)) (kt : 0 ≤ x → Aw p l e R s m args below meth c Q z0 D nL μ cells slots tgt lv st) (kf : ¬ 0 ≤ x → Aw p l e R s m args below meth c Q z0 D nL μ cells slots (pc + 3) lv st) : Aw p l e R s m args below meth c Q z0 D nL μ cells slots pc lv (.int x :: st) := fun H locs ls h1 h2 h3 => lv_if_ge C.1 C.2.1 hdg ht (fun q => kt q H locs ls h1 h2 h3) (fun q => kf q H locs ls h1 h2 h3)
theorem aw_icmp_ge (C : Cx p s m args meth c cc own nL Ts ret z0 D tys) {x y : Int32} {off : Int} {tgt : Nat} (hdg : decode cc pc = .ok (.if_icmp .ge off, 3)) (ht : (pc : Int) + off = (tgt : Int)) (kt : y ≤ x → Aw p l e R s m args below meth c Q z0 D nL μ cells slots tgt lv st) (kf : ¬ y ≤ x → Aw p l e R s m args below meth c Q z0 D nL μ cells slots (pc + 3) lv st) : Aw p l e R s m args below meth c Q z0 D nL μ cells slots pc lv (.int y :: .int x :: st) := fun H locs ls h1 h2 h3 => lv_icmp_ge C.1 C.2.1 hdg ht (fun q => kt q H locs ls h1 h2 h3) (fun q => kf q H locs ls h1 h2 h3)
theorem aw_if_gt (C : Cx p s m args meth c cc own nL Ts ret z0 D tys) {x : Int32} {off : Int} {tgt : Nat} (hdg : decode cc pc = .ok (.ifCond .gt off, 3)) (ht : (pc : Int) + off = (tgt : Int)) (kt : 0 < x → Aw p l e R s m args below meth c Q z0 D nL μ cells slots tgt lv st) (kf : ¬ 0 < x → Aw p l e R s m args below meth c Q z0 D nL μ cells slots (pc + 3) lv st) : Aw p l e R s m args below meth c Q z0 D nL μ cells slots pc lv (.int x :: st) := fun H locs ls h1 h2 h3 => lv_if_gt C.1 C.2.1 hdg ht (fun q => kt q H locs ls h1 h2 h3) (fun q => kf q H locs ls h1 h2 h3)
theorem aw_icmp_gt (C : Cx p s m args meth c cc own nL Ts ret z0 D tys) {x y : Int32} {off : Int} {tgt : Nat} (hdg : decode cc pc = .ok (.if_icmp .gt off, 3)) (ht : (pc : Int) + off = (tgt : Int)) (kt : y < x → Aw p l e R s m args below meth c Q z0 D nL μ cells slots tgt lv st) (kf : ¬ y < x → Aw p l e R s m args below meth c Q z0 D nL μ cells slots (pc + 3) lv st) : Aw p l e R s m args below meth c Q z0 D nL μ cells slots pc lv (.int y :: .int x :: st) := fun H locs ls h1 h2 h3 => lv_icmp_gt C.1 C.2.1 hdg ht (fun q => kt q H locs ls h1 h2 h3) (fun q => kf q H locs ls h1 h2 h3)
theorem aw_if_le (C : Cx p s m args meth c cc own nL Ts ret z0 D tys) {x : Int32} {off : Int} {tgt : Nat} (hdg : decode cc pc = .ok (.ifCond .le off, 3)) (ht : (pc : Int) + off = (tgt : Int)) (kt : x ≤ 0 → Aw p l e R s m args below meth c Q z0 D nL μ cells slots tgt lv st) (kf : ¬ x ≤ 0 → Aw p l e R s m args below meth c Q z0 D nL μ cells slots (pc + 3) lv st) : Aw p l e R s m args below meth c Q z0 D nL μ cells slots pc lv (.int x :: st) := fun H locs ls h1 h2 h3 => lv_if_le C.1 C.2.1 hdg ht (fun q => kt q H locs ls h1 h2 h3) (fun q => kf q H locs ls h1 h2 h3)
theorem aw_icmp_le (C : Cx p s m args meth c cc own nL Ts ret z0 D tys) {x y : Int32} {off : Int} {tgt : Nat} (hdg : decode cc pc = .ok (.if_icmp .le off, 3)) (ht : (pc : Int) + off = (tgt : Int)) (kt : x ≤ y → Aw p l e R s m args below meth c Q z0 D nL μ cells slots tgt lv st) (kf : ¬ x ≤ y → Aw p l e R s m args below meth c Q z0 D nL μ cells slots (pc + 3) lv st) : Aw p l e R s m args below meth c Q z0 D nL μ cells slots pc lv (.int y :: .int x :: st) := fun H locs ls h1 h2 h3 => lv_icmp_le C.1 C.2.1 hdg ht (fun q => kt q H locs ls h1 h2 h3) (fun q => kf q H locs ls h1 h2 h3)
theorem aw_goto (C : Cx p s m args meth c cc own nL Ts ret z0 D tys) {off : Int} {tgt : Nat} (hdg : decode cc pc = .ok (.goto off, 3)) (ht : (pc : Int) + off = (tgt : Int)) (k : Aw p l e R s m args below meth c Q z0 D nL μ cells slots tgt lv st) : Aw p l e R s m args below meth c Q z0 D nL μ cells slots pc lv st := fun H locs ls h1 h2 h3 => lv_goto C.1 C.2.1 hdg ht (k H locs ls h1 h2 h3)
theorem aw_lv {lv' : List (Nat × Value)} (ha : lv_all lv lv') (k : Aw p l e R s m args below meth c Q z0 D nL μ cells slots pc lv' st) : Aw p l e R s m args below meth c Q z0 D nL μ cells slots pc lv st := fun H locs ls h1 h2 h3 => k H locs ls h1 h2 (lv_all_has h3 lv' ha)
theorem aw_widen {n k : Nat} (h1 : cells ≤ n) (h2 : slots ≤ k) (kk : Aw p l e R s m args below meth c Q z0 D nL μ n k pc lv st) : Aw p l e R s m args below meth c Q z0 D nL μ cells slots pc lv st := fun H locs ls a b d => W.widen h1 h2 (kk H locs ls a b d)
theorem aw_drop {μ' : mu} (hs : ∀ (a : Nat) (e : va_E), μ' a = some e → μ a = some e) (kk : Aw p l e R s m args below meth c Q z0 D nL μ' cells slots pc lv st) : Aw p l e R s m args below meth c Q z0 D nL μ cells slots pc lv st := fun H locs ls a b d => kk H locs ls (a.drop hs) b d
theorem aw_mu {μ' : mu} (hs : μ = μ') (kk : Aw p l e R s m args below meth c Q z0 D nL μ' cells slots pc lv st) : Aw p l e R s m args below meth c Q z0 D nL μ cells slots pc lv st := by rw [hs]; exact kk
theorem aw_tableIn (C : Cx p s m args meth c cc own nL Ts ret z0 D tys) {dflt lo hi : Int} {offs : Array Int} {len : Nat} {x : Int32} {off : Int} {tgt : Nat} (hdg : decode cc pc = .ok (.tableswitch dflt lo hi offs, len)) (q1 : ¬ x.toInt < lo) (q2 : ¬ hi < x.toInt) (ho : offs[(x.toInt - lo).toNat]? = some off) (ht : (pc : Int) + off = (tgt : Int)) (k : Aw p l e R s m args below meth c Q z0 D nL μ cells slots tgt lv st) : Aw p l e R s m args below meth c Q z0 D nL μ cells slots pc lv (.int x :: st) := fun H locs ls h1 h2 h3 => lv_tableIn C.1 C.2.1 hdg q1 q2 ho ht (k H locs ls h1 h2 h3)
theorem aw_tableOut (C : Cx p s m args meth c cc own nL Ts ret z0 D tys) {dflt lo hi : Int} {offs : Array Int} {len : Nat} {x : Int32} {tgt : Nat} (hdg : decode cc pc = .ok (.tableswitch dflt lo hi offs, len)) (q1 : x.toInt < lo ∨ hi < x.toInt) (ht : (pc : Int) + dflt = (tgt : Int)) (k : Aw p l e R s m args below meth c Q z0 D nL μ cells slots tgt lv st) : Aw p l e R s m args below meth c Q z0 D nL μ cells slots pc lv (.int x :: st) := fun H locs ls h1 h2 h3 => lv_tableOut C.1 C.2.1 hdg q1 ht (k H locs ls h1 h2 h3)
/-- a field's link: its class among the words, its place, the link itself -/
def FL (Ts : List Cond) (own : String) (index ci : Nat) (ref Cn : String) (T : u_T) (N k : Nat) : Prop := (∀ w ∈ u_ws Cn T N, w ∈ Ts) ∧ vwCl[ci]? = some (Cn, T, N) ∧ k < N ∧ Cond.fieldLink own index ref (T k).2.1 (T k).2.2.1 ∈ Ts ∧ ((T k).1 = ref ∨ Cond.sameField ref (T k).1 (T k).2.1 (T k).2.2.1 ∈ Ts)
/-- .. by a nest mate -/
def FN (s0 : State) (Ts : List Cond) (own : String) (index ci : Nat) (ref Cn : String) (T : u_T) (N k : Nat) (host : String) : Prop := (∀ w ∈ u_ws Cn T N, w ∈ Ts) ∧ vwCl[ci]? = some (Cn, T, N) ∧ k < N ∧ va_Nw (.fieldLinkNest own index ref (T k).2.1 (T k).2.2.1 host) s0 ∧ (T k).1 = ref
/-- a class's fields: their types, their names apart -/
def FT (T : u_T) (N : Nat) : Prop := (∃ ty0 : Nat → FieldType, ∀ k, k < N → parseFieldDescriptor (T k).2.2.1 = some (ty0 k)) ∧ ∀ a, a < N → ∀ b, b < N → a ≠ b → (T a).2.1 ≠ (T b).2.1
theorem FL.same {own ref Cn : String} {index ci N k : Nat} {T : u_T} (h : FL Ts own index ci ref Cn T N k) (hts : ∀ w ∈ Ts, w.before args s = true) : ∀ x, s.fieldFound? (T k).1 (T k).2.1 (T k).2.2.1 = some x → s.fieldFound? ref (T k).2.1 (T k).2.2.1 = some x := by
  intro x hx
  rcases h.2.2.2.2 with e | e
  · rw [← e]; exact hx
  · exact u_same (hts _ e) x hx
theorem aw_get (C : Cx p s m args meth c cc own nL Ts ret z0 D tys) {ref Cn : String} {index ci N k a : Nat} {T : u_T} {fs : List Value} {v : Value} (hF : FL Ts own index ci ref Cn T N k) (hm : μ a = some (.inr (ci, fs))) (hv : fs[k]? = some v) (hdg : decode cc pc = .ok (.getfield index, 3)) (kk : Aw p l e R s m args below meth c Q z0 D nL μ cells slots (pc + 3) lv (v :: st)) : Aw p l e R s m args below meth c Q z0 D nL μ cells slots pc lv (.ref a :: st) := fun H locs ls h1 h2 h3 =>
  va_get C.1 C.2.1 C.2.2.2.2.1 hF.1 C.2.2.2.1 C.2.2.2.2.2.1 (h1.P hm) 0 rfl hF.2.1 k hF.2.2.1 (C.2.2.2.2.1 _ hF.2.2.2.1) (hF.same C.2.2.2.2.1) hv hdg (kk H locs ls h1 h2 h3)
theorem aw_getN (C : Cx p s m args meth c cc own nL Ts ret z0 D tys) {s0 : State} (hE : EN s0 s) {ref Cn host : String} {index ci N k a : Nat} {T : u_T} {fs : List Value} {v : Value} (hF : FN s0 Ts own index ci ref Cn T N k host) (hm : μ a = some (.inr (ci, fs))) (hv : fs[k]? = some v) (hdg : decode cc pc = .ok (.getfield index, 3)) (kk : Aw p l e R s m args below meth c Q z0 D nL μ cells slots (pc + 3) lv (v :: st)) : Aw p l e R s m args below meth c Q z0 D nL μ cells slots pc lv (.ref a :: st) := fun H locs ls h1 h2 h3 =>
  va_getN (host := host) C.1 C.2.1 C.2.2.2.2.1 hF.1 C.2.2.2.1 C.2.2.2.2.2.1 (h1.P hm) 0 rfl hF.2.1 k hF.2.2.1 (va_Nw.use rfl (va_Nw.warmF hE.1 hF.2.2.2.1)) (fun x hx => by rw [← hF.2.2.2.2]; exact hx) hv hdg (kk H locs ls h1 h2 h3)
theorem aw_put (C : Cx p s m args meth c cc own nL Ts ret z0 D tys) {ref Cn : String} {index ci N k a : Nat} {T : u_T} {fs : List Value} {v : Value} {ty : FieldType} (hF : FL Ts own index ci ref Cn T N k) (hT : FT T N) (hfin : (T k).2.2.2 = false) (hd : parseFieldDescriptor (T k).2.2.1 = some ty) (hn : narrow ty v = v) (hfit : fits ty v = true) (hm : μ a = some (.inr (ci, fs))) (hl : k < fs.length) (hdg : decode cc pc = .ok (.putfield index, 3))
    (kk : Aw p l e R s m args below meth c Q z0 D nL (mp μ a (.inr (ci, fs.set k v))) cells slots (pc + 3) lv st) : Aw p l e R s m args below meth c Q z0 D nL μ cells slots pc lv (v :: .ref a :: st) := by
  intro H locs ls h1 h2 h3
  obtain ⟨⟨ty0, hty⟩, hnm⟩ := hT
  have hap := va_apart (own := own) C.2.2.2.2.1 hF.1 ty0 hty hnm C.2.2.2.2.2.1 hF.2.1
  obtain ⟨⟨r, g1, cell, q1, q2, q3, q4⟩, hza⟩ := h1 a _ hm
  have hr : r = (Cn, T, N) := Option.some.inj (g1.symm.trans hF.2.1)
  subst hr
  obtain ⟨hS, hfc, kC, hkC, hkind⟩ := C.2.2.2.2.2.1.1 ci _ hF.2.1
  obtain ⟨cf, kf, fi, f, hi, hsl⟩ := hS k hF.2.2.1
  have hlay := C.2.2.2.2.1 _ (hF.1 _ (u_in_lay hF.2.2.1))
  unfold u_lay at hlay
  rw [if_neg (by rw [hfin]; decide)] at hlay
  have hst := (u_facts hfc hkC (u_lays C.2.2.2.2.1 hF.1 hF.2.2.1) hi).1
  have h6 := u_store hfc hkC hkind hlay hi hd hn hfit
  refine W.putK C.1 C.2.1 (f := f) ⟨C.2.2.2.1, C.2.2.2.2.1 _ hF.2.2.2.1, ⟨_, _, _, hF.same C.2.2.2.2.1 _ hi⟩, hst⟩ (by rw [q2]; exact h6) q1 q3 (by rw [hsl]; exact k2_hasslot (q4 k hF.2.2.1)) rfl rfl hdg fun H' e1 e2 e3 => ?_
  rw [hsl] at e1 ⊢
  exact kk H' _ ls (h1.put ⟨_, hF.2.1, t_OB.to (V := updV (vp_V fs) k v) ⟨_, e1, q2, q3, t_set q4 hap hF.2.2.1 v⟩ (fun j _ => vp_updV_set hl v j)⟩ hza e3) (h2.put e2 e3 hza) h3
theorem aw_putN (C : Cx p s m args meth c cc own nL Ts ret z0 D tys) {s0 : State} (hE : EN s0 s) {ref Cn host : String} {index ci N k a : Nat} {T : u_T} {fs : List Value} {v : Value} {ty : FieldType} (hF : FN s0 Ts own index ci ref Cn T N k host) (hT : FT T N) (hfin : (T k).2.2.2 = false) (hd : parseFieldDescriptor (T k).2.2.1 = some ty) (hn : narrow ty v = v) (hfit : fits ty v = true) (hm : μ a = some (.inr (ci, fs))) (hl : k < fs.length) (hdg : decode cc pc = .ok (.putfield index, 3))
    (kk : Aw p l e R s m args below meth c Q z0 D nL (mp μ a (.inr (ci, fs.set k v))) cells slots (pc + 3) lv st) : Aw p l e R s m args below meth c Q z0 D nL μ cells slots pc lv (v :: .ref a :: st) := by
  intro H locs ls h1 h2 h3
  obtain ⟨⟨ty0, hty⟩, hnm⟩ := hT
  have hap := va_apart (own := own) C.2.2.2.2.1 hF.1 ty0 hty hnm C.2.2.2.2.2.1 hF.2.1
  obtain ⟨⟨r, g1, cell, q1, q2, q3, q4⟩, hza⟩ := h1 a _ hm
  have hr : r = (Cn, T, N) := Option.some.inj (g1.symm.trans hF.2.1)
  subst hr
  obtain ⟨hS, hfc, kC, hkC, hkind⟩ := C.2.2.2.2.2.1.1 ci _ hF.2.1
  obtain ⟨cf, kf, fi, f, hi, hsl⟩ := hS k hF.2.2.1
  have hlay := C.2.2.2.2.1 _ (hF.1 _ (u_in_lay hF.2.2.1))
  unfold u_lay at hlay
  rw [if_neg (by rw [hfin]; decide)] at hlay
  have hst := (u_facts hfc hkC (u_lays C.2.2.2.2.1 hF.1 hF.2.2.1) hi).1
  have h6 := u_store hfc hkC hkind hlay hi hd hn hfit
  refine va_WputK C.1 C.2.1 (f := f) C.2.2.2.1 (va_Nw.use rfl (va_Nw.warmF hE.1 hF.2.2.2.1)) (by rw [← hF.2.2.2.2]; exact hi) hst (by rw [q2]; exact h6) q1 q3 (by rw [hsl]; exact k2_hasslot (q4 k hF.2.2.1)) rfl rfl hdg fun H' e1 e2 e3 => ?_
  rw [hsl] at e1 ⊢
  exact kk H' _ ls (h1.put ⟨_, hF.2.1, t_OB.to (V := updV (vp_V fs) k v) ⟨_, e1, q2, q3, t_set q4 hap hF.2.2.1 v⟩ (fun j _ => vp_updV_set hl v j)⟩ hza e3) (h2.put e2 e3 hza) h3
/-- a final field, in the constructor -/
theorem aw_putF (C : Cx p s m args meth c cc own nL Ts ret z0 D tys) {Cn : String} {index ci N k a : Nat} {T : u_T} {fs : List Value} {v : Value} {ty : FieldType} (hF : FL Ts own index ci own Cn T N k) (hT : FT T N) (hfin : (T k).2.2.2 = true) (hdecl : (T k).1 = own) (hin2 : meth.name = "<init>") (hd : parseFieldDescriptor (T k).2.2.1 = some ty) (hn : narrow ty v = v) (hfit : fits ty v = true) (hm : μ a = some (.inr (ci, fs))) (hl : k < fs.length) (hdg : decode cc pc = .ok (.putfield index, 3))
    (kk : Aw p l e R s m args below meth c Q z0 D nL (mp μ a (.inr (ci, fs.set k v))) cells slots (pc + 3) lv st) : Aw p l e R s m args below meth c Q z0 D nL μ cells slots pc lv (v :: .ref a :: st) := by
  intro H locs ls h1 h2 h3
  obtain ⟨⟨ty0, hty⟩, hnm⟩ := hT
  have hap := va_apart (own := own) C.2.2.2.2.1 hF.1 ty0 hty hnm C.2.2.2.2.2.1 hF.2.1
  obtain ⟨⟨r, g1, cell, q1, q2, q3, q4⟩, hza⟩ := h1 a _ hm
  have hr : r = (Cn, T, N) := Option.some.inj (g1.symm.trans hF.2.1)
  subst hr
  obtain ⟨hS, hfc, kC, hkC, hkind⟩ := C.2.2.2.2.2.1.1 ci _ hF.2.1
  obtain ⟨cf, kf, fi, f, hi, hsl⟩ := hS k hF.2.2.1
  have hlay := C.2.2.2.2.1 _ (hF.1 _ (u_in_lay hF.2.2.1))
  unfold u_lay at hlay
  rw [if_pos hfin] at hlay
  have hst := (u_facts hfc hkC (u_lays C.2.2.2.2.1 hF.1 hF.2.2.1) hi).1
  have hcf : m.cls = cf := by
    obtain ⟨_, _, c', _, _, _, -, -, hf', -, -, -, hown2, -⟩ := Cond.laysFinal_spec hlay
    have e1 : c' = cf := by have := hi.symm.trans hf'; simp at this; exact this.1.symm
    rw [hdecl] at hown2
    rw [← e1]; exact Option.some.inj (C.2.2.2.1.symm.trans hown2)
  have h6 := u_fits hfc hkC hkind (Or.inr hlay) hi hd hn hfit
  refine W.putFinK C.1 C.2.1 C.2.2.2.1 (C.2.2.2.2.1 _ hF.2.2.2.1) (hF.same C.2.2.2.2.1 _ hi) hst hcf hin2 (by rw [q2]; exact h6) q1 q3 (by rw [hsl]; exact k2_hasslot (q4 k hF.2.2.1)) rfl rfl hdg fun H' e1 e2 e3 => ?_
  rw [hsl] at e1 ⊢
  exact kk H' _ ls (h1.put ⟨_, hF.2.1, t_OB.to (V := updV (vp_V fs) k v) ⟨_, e1, q2, q3, t_set q4 hap hF.2.2.1 v⟩ (fun j _ => vp_updV_set hl v j)⟩ hza e3) (h2.put e2 e3 hza) h3
/-- arrays -/
abbrev eI (g : Nat → ClassId) (n : Nat) (f : Nat → Int32) : va_E := .inl (g 0, n, .inl f)
abbrev eD (g : Nat → ClassId) (n : Nat) (f : Nat → UInt64) : va_E := .inl (g 1, n, .inr (.inr (.inr (.inl f))))
abbrev eJ (g : Nat → ClassId) (n : Nat) (f : Nat → Int64) : va_E := .inl (g 2, n, .inr (.inl f))
abbrev eQ (cA : ClassId) (n : Nat) (f : Nat → Option Nat) : va_E := .inl (cA, n, .inr (.inr (.inr (.inr f))))
abbrev tyL (g : Nat → ClassId) : List (ClassId × FieldType) := [(g 0, .int), (g 1, .double), (g 2, .long), (g 3, .object "ArrowField$Archer"), (g 4, .object "ArrowField$Quiver"), (g 5, .object "java/lang/Object")]
theorem aw_iald {g : Nat → ClassId} (C : Cx p s m args meth c cc own nL Ts ret z0 D (tyL g)) {a n : Nat} {f : Nat → Int32} {i v : Int32} (hm : μ a = some (eI g n f)) (hin : vp_in i n) (hv : f i.toNatClampNeg = v) (hdg : decode cc pc = .ok (.iaload, 1)) (kk : Aw p l e R s m args below meth c Q z0 D nL μ cells slots (pc + 1) lv (.int v :: st)) : Aw p l e R s m args below meth c Q z0 D nL μ cells slots pc lv (.int i :: .ref a :: st) := by
  subst hv
  exact fun H locs ls h1 h2 h3 => va_iald C.1 C.2.1 C.2.2.2.2.2.1 (h1.P hm) 0 0 rfl rfl hin hdg (kk H locs ls h1 h2 h3)
theorem aw_dald {g : Nat → ClassId} (C : Cx p s m args meth c cc own nL Ts ret z0 D (tyL g)) {a n : Nat} {f : Nat → UInt64} {i : Int32} {v : UInt64} (hm : μ a = some (eD g n f)) (hin : vp_in i n) (hv : f i.toNatClampNeg = v) (hdg : decode cc pc = .ok (.daload, 1)) (kk : Aw p l e R s m args below meth c Q z0 D nL μ cells slots (pc + 1) lv (.double v :: st)) : Aw p l e R s m args below meth c Q z0 D nL μ cells slots pc lv (.int i :: .ref a :: st) := by
  subst hv
  exact fun H locs ls h1 h2 h3 => va_dald C.1 C.2.1 C.2.2.2.2.2.1 (h1.P hm) 0 1 rfl rfl hin hdg (kk H locs ls h1 h2 h3)
theorem aw_lald {g : Nat → ClassId} (C : Cx p s m args meth c cc own nL Ts ret z0 D (tyL g)) {a n : Nat} {f : Nat → Int64} {i : Int32} {v : Int64} (hm : μ a = some (eJ g n f)) (hin : vp_in i n) (hv : f i.toNatClampNeg = v) (hdg : decode cc pc = .ok (.laload, 1)) (kk : Aw p l e R s m args below meth c Q z0 D nL μ cells slots (pc + 1) lv (.long v :: st)) : Aw p l e R s m args below meth c Q z0 D nL μ cells slots pc lv (.int i :: .ref a :: st) := by
  subst hv
  exact fun H locs ls h1 h2 h3 => va_lald C.1 C.2.1 C.2.2.2.2.2.1 (h1.P hm) 0 2 rfl rfl hin hdg (kk H locs ls h1 h2 h3)
theorem aw_aald (C : Cx p s m args meth c cc own nL Ts ret z0 D tys) {a n t0 : Nat} {cA : ClassId} {En : String} {f : Nat → Option Nat} {i : Int32} {v : Nat} (ht : tys[t0]? = some (cA, .object En)) (hm : μ a = some (eQ cA n f)) (hin : vp_in i n) (hv : f i.toNatClampNeg = some v) (hdg : decode cc pc = .ok (.aaload, 1)) (kk : Aw p l e R s m args below meth c Q z0 D nL μ cells slots (pc + 1) lv (.ref v :: st)) : Aw p l e R s m args below meth c Q z0 D nL μ cells slots pc lv (.int i :: .ref a :: st) := fun H locs ls h1 h2 h3 =>
  va_aldq C.1 C.2.1 C.2.2.2.2.2.1 (h1.P hm) 0 t0 rfl ht hin hdg (by rw [hv]; exact kk H locs ls h1 h2 h3)
theorem aw_alen (C : Cx p s m args meth c cc own nL Ts ret z0 D tys) {a t0 : Nat} {cA : ClassId} {x : vp_A} {ty : FieldType} {v : Int32} (ht : tys[t0]? = some (cA, ty)) (hm : μ a = some (.inl (cA, x))) (hv : Int32.ofNat x.1 = v) (hdg : decode cc pc = .ok (.arraylength, 1)) (kk : Aw p l e R s m args below meth c Q z0 D nL μ cells slots (pc + 1) lv (.int v :: st)) : Aw p l e R s m args below meth c Q z0 D nL μ cells slots pc lv (.ref a :: st) := fun H locs ls h1 h2 h3 =>
  va_alen C.1 C.2.1 C.2.2.2.2.2.1 (h1.P hm) 0 t0 rfl ht hv hdg (kk H locs ls h1 h2 h3)
theorem aw_iast {g : Nat → ClassId} (C : Cx p s m args meth c cc own nL Ts ret z0 D (tyL g)) {a n : Nat} {f : Nat → Int32} {i x : Int32} (hm : μ a = some (eI g n f)) (hin : vp_in i n) (hdg : decode cc pc = .ok (.iastore, 1)) (kk : Aw p l e R s m args below meth c Q z0 D nL (mp μ a (eI g n (upd f i.toNatClampNeg x))) cells slots (pc + 1) lv st) : Aw p l e R s m args below meth c Q z0 D nL μ cells slots pc lv (.int x :: .int i :: .ref a :: st) := by
  intro H locs ls h1 h2 h3
  refine W.iast C.1 C.2.1 (h1 a _ hm).1 ((C.2.2.2.2.2.1.2 0 _ rfl).1 n (fun j => .int (f j))) (fun q => by cases q) (by show ¬ (i < 0 ∨ (arrV _ _ _).slots.size ≤ _); rw [arrV_size]; exact hin) rfl rfl hdg fun H1 e1 z oq => ?_
  refine kk H1 _ ls (h1.put ?_ (h1 a _ hm).2 oq) (h2.put z oq (h1 a _ hm).2) h3
  show H1[a]? = some (vp_cell _ _)
  rw [e1]
  rw [vp_cell_i, vp_cell_i, arrV_store]
  congr 2
  funext q
  by_cases hq : q = i.toNatClampNeg
  · subst hq
    simp [updV, upd]
  · simp [updV, upd, hq]
theorem aw_dast {g : Nat → ClassId} (C : Cx p s m args meth c cc own nL Ts ret z0 D (tyL g)) {a n : Nat} {f : Nat → UInt64} {i : Int32} {x : UInt64} (hm : μ a = some (eD g n f)) (hin : vp_in i n) (hdg : decode cc pc = .ok (.dastore, 1)) (kk : Aw p l e R s m args below meth c Q z0 D nL (mp μ a (eD g n (vf_upd f i.toNatClampNeg x))) cells slots (pc + 1) lv st) : Aw p l e R s m args below meth c Q z0 D nL μ cells slots pc lv (.double x :: .int i :: .ref a :: st) := by
  intro H locs ls h1 h2 h3
  refine W.dast C.1 C.2.1 (h1 a _ hm).1 ((C.2.2.2.2.2.1.2 1 _ rfl).1 n (fun j => .double (f j))) (fun q => by cases q) (by show ¬ (i < 0 ∨ (arrV _ _ _).slots.size ≤ _); rw [arrV_size]; exact hin) rfl rfl hdg fun H1 e1 z oq => ?_
  refine kk H1 _ ls (h1.put ?_ (h1 a _ hm).2 oq) (h2.put z oq (h1 a _ hm).2) h3
  show H1[a]? = some (vp_cell _ _)
  rw [e1]
  rw [vp_cell_d, vp_cell_d, arrV_store]
  congr 2
  funext q
  by_cases hq : q = i.toNatClampNeg
  · subst hq
    simp [updV, vf_upd]
  · simp [updV, vf_upd, hq]
theorem aw_last {g : Nat → ClassId} (C : Cx p s m args meth c cc own nL Ts ret z0 D (tyL g)) {a n : Nat} {f : Nat → Int64} {i : Int32} {x : Int64} (hm : μ a = some (eJ g n f)) (hin : vp_in i n) (hdg : decode cc pc = .ok (.lastore, 1)) (kk : Aw p l e R s m args below meth c Q z0 D nL (mp μ a (eJ g n (vp_updL f i.toNatClampNeg x))) cells slots (pc + 1) lv st) : Aw p l e R s m args below meth c Q z0 D nL μ cells slots pc lv (.long x :: .int i :: .ref a :: st) := by
  intro H locs ls h1 h2 h3
  refine W.last C.1 C.2.1 (h1 a _ hm).1 ((C.2.2.2.2.2.1.2 2 _ rfl).1 n (fun j => .long (f j))) (fun q => by cases q) (by show ¬ (i < 0 ∨ (arrV _ _ _).slots.size ≤ _); rw [arrV_size]; exact hin) rfl rfl hdg fun H1 e1 z oq => ?_
  refine kk H1 _ ls (h1.put ?_ (h1 a _ hm).2 oq) (h2.put z oq (h1 a _ hm).2) h3
  show H1[a]? = some (vp_cell _ _)
  rw [e1]
  rw [vp_cell_l, vp_cell_l, arrV_store]
  congr 2
  funext q
  by_cases hq : q = i.toNatClampNeg
  · subst hq
    simp [updV, vp_updL]
  · simp [updV, vp_updL, hq]
/-- a reference into an array: its class can be cast to the element's -/
theorem aw_aast (C : Cx p s m args meth c cc own nL Ts ret z0 D tys) {a n t0 ci v : Nat} {cA : ClassId} {En : String} {r : vw_C} {f : Nat → Option Nat} {vs : List Value} {i : Int32} (ht : tys[t0]? = some (cA, .object En)) (hca : va_Nw (.castable r.1 En) s) (hc : vwCl[ci]? = some r) (hm : μ a = some (eQ cA n f)) (hv : μ v = some (.inr (ci, vs))) (hin : vp_in i n) (hdg : decode cc pc = .ok (.aastore, 1)) (kk : Aw p l e R s m args below meth c Q z0 D nL (mp μ a (eQ cA n (va_up f i.toNatClampNeg (some v)))) cells slots (pc + 1) lv st) : Aw p l e R s m args below meth c Q z0 D nL μ cells slots pc lv (.ref v :: .int i :: .ref a :: st) := by
  intro H locs ls h1 h2 h3
  have hlt : i.toNatClampNeg < n := Nat.not_le.mp fun q => hin (Or.inr q)
  have h0 : ¬ i < 0 := fun q => hin (Or.inl q)
  obtain ⟨r', hr', cellV, g1, g2, g3, -⟩ := (h1 v _ hv).1
  have hcls := (C.2.2.2.2.2.1.1 ci r hc).2
  obtain ⟨kA, comp, k1, k2, k3, -⟩ := (C.2.2.2.2.2.1.2 t0 _ ht).2
  obtain ⟨kE, hkE, -⟩ := Vm.findClass_spec k3
  obtain ⟨c0, t1, f1, f2, f3⟩ := Cond.castable_spec (va_Nw.use (A := args) rfl hca)
  cases hcls.1.symm.trans f1
  cases k3.symm.trans f2
  obtain ⟨kC, hkC, -⟩ := hcls.2
  refine W.aast C.1 C.2.1 (h1 a _ hm).1 (fun q h => by cases h) (fun h => by cases h) k1 k2 rfl hkE ⟨h0, by show _ < (arrV _ _ _).slots.size; rw [arrV_size]; exact hlt⟩ g1 (fun q h => by rw [g3] at h; cases h) (by rw [g2]; exact hkC) (by rw [g2]; exact f3) rfl rfl hdg fun H1 e1 z oq => ?_
  refine kk H1 _ ls (h1.put ?_ (h1 a _ hm).2 oq) (h2.put z oq (h1 a _ hm).2) h3
  show H1[a]? = some (vp_cell _ _)
  rw [e1]
  rw [vp_cell_q, vp_cell_q, arrV_store]
  congr 2
  funext q
  by_cases hq : q = i.toNatClampNeg
  · subst hq
    simp [updV, va_up, va_rf]
  · simp [updV, va_up, hq]
/-- new objects, new arrays -/
theorem aw_new (C : Cx p s m args meth c cc own nL Ts ret z0 D tys) {Cn : String} {index ci N : Nat} {T : u_T} {fs : List Value} (hin : ∀ w ∈ u_ws Cn T N, w ∈ Ts) (ty : Nat → FieldType) (hty : ∀ k, k < N → parseFieldDescriptor (T k).2.2.1 = some (ty k)) (hcl : Cond.classLink own index Cn ∈ Ts) (hinst : Cond.instantiable Cn N ∈ Ts) (hini : Cond.initialized Cn ∈ Ts) (hc : vwCl[ci]? = some (Cn, T, N)) (hfs : ∀ j, j < N → defaultValue (ty j) = vp_V fs j) (hcells : cells + 1 ≤ R.cells) (hslots : slots + N ≤ R.slots) (hdg : decode cc pc = .ok (.new index, 3))
    (kk : ∀ a : Nat, z0 ≤ a → μ a = none → Aw p l e R s m args below meth c Q z0 D nL (mp μ a (.inr (ci, fs))) (cells + 1) (slots + N) (pc + 3) lv (.ref a :: st)) : Aw p l e R s m args below meth c Q z0 D nL μ cells slots pc lv st := by
  intro H locs ls h1 h2 h3
  have hKn := C.2.2.2.2.2.1.1 ci _ hc
  refine W.newcK C.1 C.2.1 C.2.2.2.1 (C.2.2.2.2.1 _ hcl) (C.2.2.2.2.1 _ hinst) (C.2.2.2.2.1 _ hini) rfl hdg hcells hslots hKn.2.1 rfl fun H1 kC hkC e1 z1 o1 => ?_
  have hz : z0 ≤ H.size := Nat.le_trans C.2.2.2.2.2.2.1 h2.1
  refine kk H.size hz (h1.fresh (Nat.le_refl _)) H1 locs ls (h1.new ⟨_, hc, (u_born ty C.2.2.2.2.1 hin hKn hkC e1 hty).to hfs⟩ hz o1) ⟨Nat.le_trans h2.1 (by omega), fun x g1 g2 => (o1 x (Nat.lt_of_lt_of_le g1 h2.1)).trans (h2.2.1 x g1 g2), h2.2.2⟩ h3
theorem aw_newa (C : Cx p s m args meth c cc own nL Ts ret z0 D tys) {atype : ArrayType} {cA : ClassId} {ty : FieldType} {t0 N : Nat} {n : Int32} {a0 : vp_A} (harr : Cond.arrayClass (newarray.typeOf atype) ∈ Ts) (hty : newarray.typeOf atype = ty) (ht : tys[t0]? = some (cA, ty)) (hra : ∀ c2, va_RA s c2 ty ↔ s.vm.findClass ("[" ++ ty.toString) = some c2) (ha : vp_cell cA a0 = arrV cA N (fun _ => defaultValue ty)) (hn : ¬ n < 0) (hN : n.toNatClampNeg = N) (hbytes : N * componentBytes ty ≤ 536870912) (hcells : cells + 1 ≤ R.cells) (hslots : slots + N ≤ R.slots) (hdg : decode cc pc = .ok (.newarray atype, 2))
    (kk : ∀ a : Nat, z0 ≤ a → μ a = none → Aw p l e R s m args below meth c Q z0 D nL (mp μ a (.inl (cA, a0))) (cells + 1) (slots + N) (pc + 2) lv (.ref a :: st)) : Aw p l e R s m args below meth c Q z0 D nL μ cells slots pc lv (.int n :: st) := by
  subst hty
  intro H locs ls h1 h2 h3
  refine va_newaK C.1 C.2.1 (C.2.2.2.2.1 _ harr) rfl hdg rfl hn hN hbytes hcells hslots rfl fun H1 cB e1 z1 o1 hAr hNm => ?_
  have hcB : cB = cA := by
    have h5 := (hra cA).mp (C.2.2.2.2.2.1.2 t0 _ ht).2
    exact Option.some.inj (hNm.symm.trans h5)
  subst hcB
  have hz : z0 ≤ H.size := Nat.le_trans C.2.2.2.2.2.2.1 h2.1
  refine kk H.size hz (h1.fresh (Nat.le_refl _)) H1 locs ls (h1.new ?_ hz o1) ⟨Nat.le_trans h2.1 (by omega), fun x g1 g2 => (o1 x (Nat.lt_of_lt_of_le g1 h2.1)).trans (h2.2.1 x g1 g2), h2.2.2⟩ h3
  show H1[H.size]? = some (vp_cell _ _)
  rw [ha]
  exact e1
theorem aw_newq (C : Cx p s m args meth c cc own nL Ts ret z0 D tys) {En : String} {index t0 N : Nat} {cA : ClassId} {n : Int32} (hcl : Cond.classLink own index En ∈ Ts) (hover : va_AO En s) (ht : tys[t0]? = some (cA, .object En)) (hn : ¬ n < 0) (hN : n.toNatClampNeg = N) (hbytes : N * 4 ≤ 536870912) (hcells : cells + 1 ≤ R.cells) (hslots : slots + N ≤ R.slots) (hdg : decode cc pc = .ok (.anewarray index, 3))
    (kk : ∀ a : Nat, z0 ≤ a → μ a = none → Aw p l e R s m args below meth c Q z0 D nL (mp μ a (eQ cA N (fun _ => none))) (cells + 1) (slots + N) (pc + 3) lv (.ref a :: st)) : Aw p l e R s m args below meth c Q z0 D nL μ cells slots pc lv (.int n :: st) := by
  subst hN
  intro H locs ls h1 h2 h3
  refine W.anew C.1 C.2.1 C.2.2.2.1 (C.2.2.2.2.1 _ hcl) (va_AO.use hover) rfl hdg rfl hn hbytes hcells hslots fun cB kA comp f1 f2 f3 f4 => ?_
  have hcB : cB = cA := by
    obtain ⟨kA', comp', g1, g2, g3, g4⟩ := (C.2.2.2.2.2.1.2 t0 _ ht).2
    exact Option.some.inj (f1.symm.trans g4)
  subst hcB
  generalize hH1 : H.push ({ cls := cB, slots := Array.replicate n.toNatClampNeg .null, vm := .none } : Cell) = H1
  have z1 : H1.size = H.size + 1 := by rw [← hH1, Array.size_push]
  have e1 : H1[H.size]? = some (arrV cB n.toNatClampNeg (fun _ => .null)) := by rw [← hH1, Array.getElem?_push_size, ← arrV_new]
  have o1 : ∀ q : Nat, q < H.size → H1[q]? = H[q]? := fun q hq => by rw [← hH1, Array.getElem?_push, if_neg (Nat.ne_of_lt hq)]
  have hz : z0 ≤ H.size := Nat.le_trans C.2.2.2.2.2.2.1 h2.1
  refine kk H.size hz (h1.fresh (Nat.le_refl _)) H1 locs ls (h1.new ?_ hz o1) ⟨Nat.le_trans h2.1 (by omega), fun x g1 g2 => (o1 x (Nat.lt_of_lt_of_le g1 h2.1)).trans (h2.2.1 x g1 g2), h2.2.2⟩ h3
  show H1[H.size]? = some (vp_cell _ _)
  rw [vp_cell_q]
  exact e1
theorem aw_cast (C : Cx p s m args meth c cc own nL Ts ret z0 D tys) {nm : String} {index ci a : Nat} {q : vw_C} {fs : List Value} (hcl : Cond.classLink own index nm ∈ Ts) (hca : va_Nw (.castable q.1 nm) s) (hc : vwCl[ci]? = some q) (hm : μ a = some (.inr (ci, fs))) (hdg : decode cc pc = .ok (.checkcast index, 3)) (kk : Aw p l e R s m args below meth c Q z0 D nL μ cells slots (pc + 3) lv (.ref a :: st)) : Aw p l e R s m args below meth c Q z0 D nL μ cells slots pc lv (.ref a :: st) := fun H locs ls h1 h2 h3 =>
  va_castY C.1 C.2.1 C.2.2.2.1 (C.2.2.2.2.1 _ hcl) hca (va_recv C.2.2.2.2.2.1 (h1.P hm) hc (q0 := 0) rfl) hdg (kk H locs ls h1 h2 h3)
theorem aw_objInit (C : Cx p s m args meth c cc own nL Ts ret z0 D tys) {index a : Nat} (h1 : Cond.methodLink own index objectInit ∈ Ts) (h2 : Cond.instanceMethod objectInit ∈ Ts) (h3 : Cond.code objectInit ⟨#[0xb1]⟩ 1 none ∈ Ts) (hfr : 1 ≤ R.frames) (hlo : (st.map fun v => v.category).sum + 12 ≤ R.locals) (hdg : decode cc pc = .ok (.invokespecial index, 3)) (kk : Aw p l e R s m args below meth c Q z0 D nL μ cells slots (pc + 3) lv st) : Aw p l e R s m args below meth c Q z0 D nL μ cells slots pc lv (.ref a :: st) := fun H locs ls g1 g2 g3 =>
  W.objInit C.1 C.2.1 C.2.2.2.1 (C.2.2.2.2.1 _ h1) (C.2.2.2.2.1 _ h2) (C.2.2.2.2.1 _ h3) rfl (by rw [C.2.2.1]; exact g3.1) rfl hdg hfr (by have : 2 * (F0 m pc ls (.ref a :: st)).monitorRoom = 0 := rfl; omega) (kk H locs ls g1 g2 g3)
/-! ===== calls ===== -/
theorem m_call {H : Heap} {locs : List Loc} {ls : Array Slot} {mc ms : Nat} {st0 rest : List Value} {a' : Array Value} {post : Option Value → mu → Prop} (hr : va_Run p l e R s m args below meth c H locs cells slots mc ms (F0 m pc ls st0) rest (mQc z0 D post a') (fun q => z0 ≤ q)) (hS : va_S (fun q => z0 ≤ q) s.heap H locs)
    (kk : ∀ (v : Option Value) (μ' : mu) (H1 : Heap) (locs1 : List Loc), post v μ' → mW z0 D μ' H1 → va_S (fun q => z0 ≤ q) s.heap H1 locs1 → W p l e R s m args below meth c H1 locs1 (cells + mc) (slots + ms) Q (F0 m (pc + 3) ls (v.toList ++ rest))) : W p l e R s m args below meth c H locs cells slots Q (F0 m pc ls st0) := by
  intro T hT X
  obtain ⟨v, st₀, t, T', L, h0, X', hL, e1, e2, ⟨⟨v', μ', hv, hp, hw⟩, hF⟩, stt⟩ := hr T hT X
  cases hv
  obtain ⟨k1, k2, k3⟩ := vx_keep h0 e1 hS (fun _ _ h => h) (fun _ h => h) hL hF
  obtain ⟨t2, a1, b1⟩ := kk v μ' T'.heap (locs ++ L) hp (by rw [e1]; exact hw) k3 T' rfl X'
  exact ⟨t2, stt t2 a1, b1⟩
theorem m_call5 {H : Heap} {locs : List Loc} {ls : Array Slot} {mc ms : Nat} {st0 rest : List Value} {a' : Array Value} {post : Option Value → mu → Prop} (hr : va_Run5 p l e R s m args below meth c H locs cells slots mc ms (F0 m pc ls st0) rest (mQc z0 D post a') (fun q => z0 ≤ q)) (hS : va_S (fun q => z0 ≤ q) s.heap H locs)
    (kk : ∀ (v : Option Value) (μ' : mu) (H1 : Heap) (locs1 : List Loc), post v μ' → mW z0 D μ' H1 → va_S (fun q => z0 ≤ q) s.heap H1 locs1 → W p l e R s m args below meth c H1 locs1 (cells + mc) (slots + ms) Q (F0 m (pc + 5) ls (v.toList ++ rest))) : W p l e R s m args below meth c H locs cells slots Q (F0 m pc ls st0) := by
  intro T hT X
  obtain ⟨v, st₀, t, T', L, h0, X', hL, e1, e2, ⟨⟨v', μ', hv, hp, hw⟩, hF⟩, stt⟩ := hr T hT X
  cases hv
  obtain ⟨k1, k2, k3⟩ := vx_keep h0 e1 hS (fun _ _ h => h) (fun _ h => h) hL hF
  obtain ⟨t2, a1, b1⟩ := kk v μ' T'.heap (locs ++ L) hp (by rw [e1]; exact hw) k3 T' rfl X'
  exact ⟨t2, stt t2 a1, b1⟩
theorem m_xcall {H : Heap} {locs : List Loc} {ls : Array Slot} {mc ms : Nat} {st0 rest : List Value} {a' : Array Value} {post : Option Value → mu → Prop} {px : String → mu → Prop} (hr : vx_Run p l e R s m args below meth c H locs cells slots mc ms (F0 m pc ls st0) rest (mQc z0 D post a') (mXc z0 D px) (fun q => z0 ≤ q)) (hS : va_S (fun q => z0 ≤ q) s.heap H locs)
    (kx : ∀ (E : String) (ce : Cell) (q9 : Addr) (μ' : mu) (H1 : Heap) (locs1 : List Loc), px E μ' → mW z0 D μ' H1 → va_S (fun q => z0 ≤ q) s.heap H1 locs1 → H1[q9]? = some ce → ce.vm = .none → s.vm.findClass E = some ce.cls → vx_W p l e R s m args below meth c H1 locs1 (cells + mc) (slots + ms) Q (F0 m pc ls rest) q9)
    (kk : ∀ (v : Option Value) (μ' : mu) (H1 : Heap) (locs1 : List Loc), post v μ' → mW z0 D μ' H1 → va_S (fun q => z0 ≤ q) s.heap H1 locs1 → W p l e R s m args below meth c H1 locs1 (cells + mc) (slots + ms) Q (F0 m (pc + 3) ls (v.toList ++ rest))) : W p l e R s m args below meth c H locs cells slots Q (F0 m pc ls st0) := by
  intro T hT X
  rcases hr T hT X with ⟨v, st₀, t, T', L, h0, X', hL, e1, e2, ⟨⟨v', μ', hv, hp, hw⟩, hF⟩, stt⟩ | ⟨q, st₀, t, T', L, E, ce, h0, X', hL, e1, e2, ⟨⟨μ', hp, hw⟩, hF⟩, hce, hcv, hcl, stt⟩
  · cases hv
    obtain ⟨k1, k2, k3⟩ := vx_keep h0 e1 hS (fun _ _ h => h) (fun _ h => h) hL hF
    obtain ⟨t2, a1, b1⟩ := kk v μ' T'.heap (locs ++ L) hp (by rw [e1]; exact hw) k3 T' rfl X'
    exact ⟨t2, stt t2 a1, b1⟩
  · obtain ⟨k1, k2, k3⟩ := vx_keep h0 e1 hS (fun _ _ h => h) (fun _ h => h) hL hF
    obtain ⟨t2, a1, b1⟩ := kx E ce q μ' T'.heap (locs ++ L) hp (by rw [e1]; exact hw) k3 (by rw [e1]; exact hce) hcv hcl T' rfl X'
    exact ⟨t2, stt.trans a1, b1⟩
end ROWS
section CALLS
variable {p : Program} {l : Launch} {e : Env} {R : Room} {s s0 : State} {m : MethodId} {args : Array Value} {below : List Frame} {meth : Method} {c : Code} {Q : State → Prop}
variable {D : va_G} {nL : Nat} {μ : mu} {cells slots : Nat} {pc : Nat} {lv : List (Nat × Value)} {st rest As : List Value} {cc : ByteArray} {own : String} {Ts ws ws' : List Cond} {ret rt : Option FieldType} {tys : List (ClassId × FieldType)}
variable {y : MethodName} {rm : Room} {mc ms n index maxL : Nat} {bytes : ByteArray} {post : Option Value → mu → Prop} {px : String → mu → Prop}
theorem m_pre {H : Heap} {locs : List Loc} (C : Cx p s m args meth c cc own nL Ts ret s0.heap.size D tys) (hE : EN s0 s) {av : List Value} (h1 : mW s0.heap.size D μ H) (h2 : va_S (fun q => s0.heap.size ≤ q) s.heap H locs) : ∀ U : State, U.heap = H → s.WarmedH U.vm → mPc s0 D tys av μ av.toArray U := fun U hU hW =>
  ⟨rfl, by rw [hU]; exact h1, va_K.moved hW.alike C.2.2.2.2.2.1, hE.to h2 hU hW⟩
theorem aw_callV (C : Cx p s m args meth c cc own nL Ts ret s0.heap.size D tys) (hE : EN s0 s) {b ci : Nat} {q : vw_C} {fs : List Value}
    (hM : Ct l y ws rm s0 D tys (.ref b :: As) μ mc ms post) (hG : GoodIn Ts (wsV own index q.1 y ws)) (hw : ws = Cond.code y bytes maxL rt :: ws') (hrm : rm.cells = mc ∧ rm.slots = ms) (hd : y.cls = q.1 ∧ y.cls ≠ "java/lang/invoke/MethodHandle" ∧ y.cls ≠ "java/lang/invoke/VarHandle" ∧ (parseMethodDescriptor y.desc).map (fun d => d.parameters.length) = some n) (hR : rm.frames + 1 ≤ R.frames ∧ 8 + (maxL + 11) + rm.locals ≤ R.locals)
    (hn : As.length = n) (hc : vwCl[ci]? = some q) (hm : μ b = some (.inr (ci, fs))) (hst : st = As.reverse ++ .ref b :: rest) (hcat : (rest.map fun v => v.category).sum ≤ 8) (hdg : decode cc pc = .ok (.invokevirtual index, 3)) (hf : cells + mc ≤ R.cells ∧ slots + ms ≤ R.slots)
    (kk : ∀ (v : Option Value) (μ' : mu), post v μ' → Aw p l e R s m args below meth c Q s0.heap.size D nL μ' (cells + mc) (slots + ms) (pc + 3) lv (v.toList ++ rest)) : Aw p l e R s m args below meth c Q s0.heap.size D nL μ cells slots pc lv st := by
  subst hst
  exact fun H locs ls h1 h2 h3 => m_call (va_runV ⟨C.1, C.2.1, C.2.2.1, C.2.2.2.1, C.2.2.2.2.1⟩ hM (cwV n C.2.2.2.2.1 hG hw hrm.1 hrm.2 hd hR) ⟨mPc.blind, va_recv C.2.2.2.2.2.1 (h1.P hm) hc (q0 := 0) rfl, m_pre C hE h1 h2⟩ rfl hn h3.1 rfl (lv_room hcat) hdg hf) h2 (fun v μ' H1 locs1 hp hw h4 => kk v μ' hp H1 locs1 ls hw h4 h3)
theorem aw_callS (C : Cx p s m args meth c cc own nL Ts ret s0.heap.size D tys) (hE : EN s0 s)
    (hM : Ct l y ws rm s0 D tys As μ mc ms post) (hG : GoodIn Ts (va_wsS own index y ws)) (hw : ws = Cond.code y bytes maxL rt :: ws') (hrm : rm.cells = mc ∧ rm.slots = ms) (hd : y.cls ≠ "java/lang/invoke/MethodHandle" ∧ y.cls ≠ "java/lang/invoke/VarHandle" ∧ (parseMethodDescriptor y.desc).map (fun d => d.parameters.length) = some n) (hR : rm.frames + 1 ≤ R.frames ∧ 8 + (maxL + 11) + rm.locals ≤ R.locals)
    (hn : As.length = n) (hst : st = As.reverse ++ rest) (hcat : (rest.map fun v => v.category).sum ≤ 8) (hdg : decode cc pc = .ok (.invokestatic index, 3)) (hf : cells + mc ≤ R.cells ∧ slots + ms ≤ R.slots)
    (kk : ∀ (v : Option Value) (μ' : mu), post v μ' → Aw p l e R s m args below meth c Q s0.heap.size D nL μ' (cells + mc) (slots + ms) (pc + 3) lv (v.toList ++ rest)) : Aw p l e R s m args below meth c Q s0.heap.size D nL μ cells slots pc lv st := by
  subst hst
  exact fun H locs ls h1 h2 h3 => m_call (va_runS ⟨C.1, C.2.1, C.2.2.1, C.2.2.2.1, C.2.2.2.2.1⟩ hM (va_cwS n C.2.2.2.2.1 hG hw hrm.1 hrm.2 hd hR) ⟨mPc.blind, m_pre C hE h1 h2⟩ rfl hn h3.1 rfl (lv_room hcat) hdg hf) h2 (fun v μ' H1 locs1 hp hw h4 => kk v μ' hp H1 locs1 ls hw h4 h3)
theorem aw_callI (C : Cx p s m args meth c cc own nL Ts ret s0.heap.size D tys) (hE : EN s0 s) {b : Nat}
    (hM : Ct l y ws rm s0 D tys (.ref b :: As) μ mc ms post) (hG : GoodIn Ts ws) (hini : Cond.initialized y.cls ∈ Ts) (hlk : Cond.methodLink own index y ∈ Ts) (hins : Cond.instanceMethod y ∈ Ts) (hy1 : y.name = "<init>") (hw : ws = Cond.code y bytes maxL none :: ws') (hrm : rm.cells = mc ∧ rm.slots = ms) (hd : y.cls ≠ "java/lang/invoke/MethodHandle" ∧ y.cls ≠ "java/lang/invoke/VarHandle" ∧ (parseMethodDescriptor y.desc).map (fun d => d.parameters.length) = some n) (hR : rm.frames + 1 ≤ R.frames ∧ 8 + (maxL + 11) + rm.locals ≤ R.locals)
    (hn : As.length = n) (hst : st = As.reverse ++ .ref b :: rest) (hcat : (rest.map fun v => v.category).sum ≤ 8) (hdg : decode cc pc = .ok (.invokespecial index, 3)) (hf : cells + mc ≤ R.cells ∧ slots + ms ≤ R.slots)
    (kk : ∀ (v : Option Value) (μ' : mu), post v μ' → Aw p l e R s m args below meth c Q s0.heap.size D nL μ' (cells + mc) (slots + ms) (pc + 3) lv (v.toList ++ rest)) : Aw p l e R s m args below meth c Q s0.heap.size D nL μ cells slots pc lv st := by
  subst hst
  exact fun H locs ls h1 h2 h3 => m_call (va_runI ⟨C.1, C.2.1, C.2.2.1, C.2.2.2.1, C.2.2.2.2.1⟩ hM (cwI n C.2.2.2.2.1 hG hw hrm.1 hrm.2 (C.2.2.2.2.1 _ hini) (C.2.2.2.2.1 _ hlk) (C.2.2.2.2.1 _ hins) hy1 hd hR) ⟨mPc.blind, m_pre C hE h1 h2⟩ rfl hn h3.1 rfl (lv_room hcat) hdg hf) h2 (fun v μ' H1 locs1 hp hw h4 => kk v μ' hp H1 locs1 ls hw h4 h3)
/-- a nest mate's private constructor, its private static method -/
theorem aw_callIN (C : Cx p s m args meth c cc own nL Ts ret s0.heap.size D tys) (hE : EN s0 s) {b : Nat} {host : String}
    (hM : Ct l y ws rm s0 D tys (.ref b :: As) μ mc ms post) (hG : GoodIn Ts ws) (hini : Cond.initialized y.cls ∈ Ts) (hlk : va_Nw (.methodLinkNest own index y host) s0) (hins : Cond.instanceMethod y ∈ Ts) (hy1 : y.name = "<init>") (hw : ws = Cond.code y bytes maxL none :: ws') (hrm : rm.cells = mc ∧ rm.slots = ms) (hd : y.cls ≠ "java/lang/invoke/MethodHandle" ∧ y.cls ≠ "java/lang/invoke/VarHandle" ∧ (parseMethodDescriptor y.desc).map (fun d => d.parameters.length) = some n) (hR : rm.frames + 1 ≤ R.frames ∧ 8 + (maxL + 11) + rm.locals ≤ R.locals)
    (hn : As.length = n) (hst : st = As.reverse ++ .ref b :: rest) (hcat : (rest.map fun v => v.category).sum ≤ 8) (hdg : decode cc pc = .ok (.invokespecial index, 3)) (hf : cells + mc ≤ R.cells ∧ slots + ms ≤ R.slots)
    (kk : ∀ (v : Option Value) (μ' : mu), post v μ' → Aw p l e R s m args below meth c Q s0.heap.size D nL μ' (cells + mc) (slots + ms) (pc + 3) lv (v.toList ++ rest)) : Aw p l e R s m args below meth c Q s0.heap.size D nL μ cells slots pc lv st := by
  subst hst
  exact fun H locs ls h1 h2 h3 => m_call (va_runIN ⟨C.1, C.2.1, C.2.2.1, C.2.2.2.1, C.2.2.2.2.1⟩ hM ⟨va_cnB n C.2.2.2.2.1 hG hw hrm.1 hrm.2 (va_Nw.warmM hE.1 hlk) (C.2.2.2.2.1 _ hini) hd hR, hy1, C.2.2.2.2.1 _ hins⟩ ⟨mPc.blind, m_pre C hE h1 h2⟩ rfl hn h3.1 rfl (lv_room hcat) hdg hf) h2 (fun v μ' H1 locs1 hp hw h4 => kk v μ' hp H1 locs1 ls hw h4 h3)
theorem aw_callSN (C : Cx p s m args meth c cc own nL Ts ret s0.heap.size D tys) (hE : EN s0 s) {host : String}
    (hM : Ct l y ws rm s0 D tys As μ mc ms post) (hG : GoodIn Ts ws) (hini : Cond.initialized y.cls ∈ Ts) (hlk : va_Nw (.methodLinkNest own index y host) s0) (hins : Cond.static y ∈ Ts) (hw : ws = Cond.code y bytes maxL rt :: ws') (hrm : rm.cells = mc ∧ rm.slots = ms) (hd : y.cls ≠ "java/lang/invoke/MethodHandle" ∧ y.cls ≠ "java/lang/invoke/VarHandle" ∧ (parseMethodDescriptor y.desc).map (fun d => d.parameters.length) = some n) (hR : rm.frames + 1 ≤ R.frames ∧ 8 + (maxL + 11) + rm.locals ≤ R.locals)
    (hn : As.length = n) (hst : st = As.reverse ++ rest) (hcat : (rest.map fun v => v.category).sum ≤ 8) (hdg : decode cc pc = .ok (.invokestatic index, 3)) (hf : cells + mc ≤ R.cells ∧ slots + ms ≤ R.slots)
    (kk : ∀ (v : Option Value) (μ' : mu), post v μ' → Aw p l e R s m args below meth c Q s0.heap.size D nL μ' (cells + mc) (slots + ms) (pc + 3) lv (v.toList ++ rest)) : Aw p l e R s m args below meth c Q s0.heap.size D nL μ cells slots pc lv st := by
  subst hst
  exact fun H locs ls h1 h2 h3 => m_call (va_runSN ⟨C.1, C.2.1, C.2.2.1, C.2.2.2.1, C.2.2.2.2.1⟩ hM ⟨va_cnB n C.2.2.2.2.1 hG hw hrm.1 hrm.2 (va_Nw.warmM hE.1 hlk) (C.2.2.2.2.1 _ hini) hd hR, C.2.2.2.2.1 _ hins, trivial⟩ ⟨mPc.blind, m_pre C hE h1 h2⟩ rfl hn h3.1 rfl (lv_room hcat) hdg hf) h2 (fun v μ' H1 locs1 hp hw h4 => kk v μ' hp H1 locs1 ls hw h4 h3)
/-- by an interface -/
theorem aw_callF (C : Cx p s m args meth c cc own nL Ts ret s0.heap.size D tys) (hE : EN s0 s) {b ci count : Nat} {q : vw_C} {fs : List Value} {x : MethodName}
    (hM : Ct l y ws rm s0 D tys (.ref b :: As) μ mc ms post) (hG : GoodIn Ts (va_wsF own index q.1 x y ws)) (hFw : va_Fw q.1 x y s) (hw : ws = Cond.code y bytes maxL rt :: ws') (hrm : rm.cells = mc ∧ rm.slots = ms) (hd : x.cls ≠ "java/lang/invoke/MethodHandle" ∧ x.cls ≠ "java/lang/invoke/VarHandle" ∧ (parseMethodDescriptor x.desc).map (fun d => d.parameters.length) = some n) (hR : rm.frames + 1 ≤ R.frames ∧ 8 + (maxL + 11) + rm.locals ≤ R.locals)
    (hn : As.length = n) (hc : vwCl[ci]? = some q) (hm : μ b = some (.inr (ci, fs))) (hst : st = As.reverse ++ .ref b :: rest) (hcat : (rest.map fun v => v.category).sum ≤ 8) (hdg : decode cc pc = .ok (.invokeinterface index count, 5)) (hf : cells + mc ≤ R.cells ∧ slots + ms ≤ R.slots)
    (kk : ∀ (v : Option Value) (μ' : mu), post v μ' → Aw p l e R s m args below meth c Q s0.heap.size D nL μ' (cells + mc) (slots + ms) (pc + 5) lv (v.toList ++ rest)) : Aw p l e R s m args below meth c Q s0.heap.size D nL μ cells slots pc lv st := by
  subst hst
  exact fun H locs ls h1 h2 h3 => m_call5 (va_runF (C.2.2.2.2.2.1.1 ci _ hc).2 ⟨C.1, C.2.1, C.2.2.1, C.2.2.2.1, C.2.2.2.2.1⟩ hM (va_cwF n C.2.2.2.2.1 hG hw hrm.1 hrm.2 hFw hd hR) ⟨mPc.blind, va_recv C.2.2.2.2.2.1 (h1.P hm) hc (q0 := 0) rfl, m_pre C hE h1 h2⟩ rfl hn h3.1 rfl (lv_room hcat) hdg hf) h2 (fun v μ' H1 locs1 hp hw h4 => kk v μ' hp H1 locs1 ls hw h4 h3)
/-- of methods that may throw: out of here -/
theorem ax_callV {mc0 ms0 : Nat} {post0 : Option Value → mu → Prop} {px0 : String → mu → Prop} (C : Cx p s m args meth c cc own nL Ts ret s0.heap.size D tys) (hE : EN s0 s) (hQ : Q = vx_MQ below (mQc s0.heap.size D post0) (mXc s0.heap.size D px0) args s mc0 ms0 (fun q => s0.heap.size ≤ q)) (hnt : ∀ x ∈ c.exceptionTable.toList, False) {b ci : Nat} {q : vw_C} {fs : List Value}
    (hM : Cy l y ws rm s0 D tys (.ref b :: As) μ mc ms post px) (hG : GoodIn Ts (wsV own index q.1 y ws)) (hw : ws = Cond.code y bytes maxL rt :: ws') (hrm : rm.cells = mc ∧ rm.slots = ms) (hd : y.cls = q.1 ∧ y.cls ≠ "java/lang/invoke/MethodHandle" ∧ y.cls ≠ "java/lang/invoke/VarHandle" ∧ (parseMethodDescriptor y.desc).map (fun d => d.parameters.length) = some n) (hR : rm.frames + 1 ≤ R.frames ∧ 8 + (maxL + 11) + rm.locals ≤ R.locals)
    (hn : As.length = n) (hc : vwCl[ci]? = some q) (hm : μ b = some (.inr (ci, fs))) (hst : st = As.reverse ++ .ref b :: rest) (hcat : (rest.map fun v => v.category).sum ≤ 8) (hdg : decode cc pc = .ok (.invokevirtual index, 3)) (hf : cells + mc ≤ R.cells ∧ slots + ms ≤ R.slots) (hf0 : cells + mc ≤ mc0 ∧ slots + ms ≤ ms0)
    (hpx : ∀ (E : String) (μ' : mu), px E μ' → px0 E μ')
    (kk : ∀ (v : Option Value) (μ' : mu), post v μ' → Aw p l e R s m args below meth c Q s0.heap.size D nL μ' (cells + mc) (slots + ms) (pc + 3) lv (v.toList ++ rest)) : Aw p l e R s m args below meth c Q s0.heap.size D nL μ cells slots pc lv st := by
  subst hst
  subst hQ
  exact fun H locs ls h1 h2 h3 => m_xcall (vx_runV ⟨C.1, C.2.1, C.2.2.1, C.2.2.2.1, C.2.2.2.2.1⟩ hM (cwV n C.2.2.2.2.1 hG hw hrm.1 hrm.2 hd hR) ⟨mPc.blind, va_recv C.2.2.2.2.2.1 (h1.P hm) hc (q0 := 0) rfl, m_pre C hE h1 h2⟩ rfl hn h3.1 rfl (lv_room hcat) hdg hf) h2
    (fun E ce q9 μ' H1 locs1 hp hw h4 g1 g2 g3 => vx_out (fun x hx => (hnt x hx).elim) C.2.2.2.2.2.2.2.1 g1 g2 g3 (fun t ht hvm => ⟨⟨μ', hpx E μ' hp, by rw [ht]; exact hw⟩, h4.F ht⟩) h4.2.2 hf0.1 hf0.2)
    (fun v μ' H1 locs1 hp hw h4 => kk v μ' hp H1 locs1 ls hw h4 h3)
theorem ax_callS {mc0 ms0 : Nat} {post0 : Option Value → mu → Prop} {px0 : String → mu → Prop} (C : Cx p s m args meth c cc own nL Ts ret s0.heap.size D tys) (hE : EN s0 s) (hQ : Q = vx_MQ below (mQc s0.heap.size D post0) (mXc s0.heap.size D px0) args s mc0 ms0 (fun q => s0.heap.size ≤ q)) (hnt : ∀ x ∈ c.exceptionTable.toList, False)
    (hM : Cy l y ws rm s0 D tys As μ mc ms post px) (hG : GoodIn Ts (va_wsS own index y ws)) (hw : ws = Cond.code y bytes maxL rt :: ws') (hrm : rm.cells = mc ∧ rm.slots = ms) (hd : y.cls ≠ "java/lang/invoke/MethodHandle" ∧ y.cls ≠ "java/lang/invoke/VarHandle" ∧ (parseMethodDescriptor y.desc).map (fun d => d.parameters.length) = some n) (hR : rm.frames + 1 ≤ R.frames ∧ 8 + (maxL + 11) + rm.locals ≤ R.locals)
    (hn : As.length = n) (hst : st = As.reverse ++ rest) (hcat : (rest.map fun v => v.category).sum ≤ 8) (hdg : decode cc pc = .ok (.invokestatic index, 3)) (hf : cells + mc ≤ R.cells ∧ slots + ms ≤ R.slots) (hf0 : cells + mc ≤ mc0 ∧ slots + ms ≤ ms0)
    (hpx : ∀ (E : String) (μ' : mu), px E μ' → px0 E μ')
    (kk : ∀ (v : Option Value) (μ' : mu), post v μ' → Aw p l e R s m args below meth c Q s0.heap.size D nL μ' (cells + mc) (slots + ms) (pc + 3) lv (v.toList ++ rest)) : Aw p l e R s m args below meth c Q s0.heap.size D nL μ cells slots pc lv st := by
  subst hst
  subst hQ
  exact fun H locs ls h1 h2 h3 => m_xcall (vx_runS ⟨C.1, C.2.1, C.2.2.1, C.2.2.2.1, C.2.2.2.2.1⟩ hM (va_cwS n C.2.2.2.2.1 hG hw hrm.1 hrm.2 hd hR) ⟨mPc.blind, m_pre C hE h1 h2⟩ rfl hn h3.1 rfl (lv_room hcat) hdg hf) h2
    (fun E ce q9 μ' H1 locs1 hp hw h4 g1 g2 g3 => vx_out (fun x hx => (hnt x hx).elim) C.2.2.2.2.2.2.2.1 g1 g2 g3 (fun t ht hvm => ⟨⟨μ', hpx E μ' hp, by rw [ht]; exact hw⟩, h4.F ht⟩) h4.2.2 hf0.1 hf0.2)
    (fun v μ' H1 locs1 hp hw h4 => kk v μ' hp H1 locs1 ls hw h4 h3)
/-! ===== ends ===== -/
def Ends (Q : State → Prop) (below : List Frame) (args : Array Value) (s : State) (z0 : Nat) (D : va_G) (post : Option Value → mu → Prop) (mc ms : Nat) : Prop := ∀ t : State, MQ below (mQc z0 D post) args s mc ms (fun q => z0 ≤ q) t → Q t
theorem Ends.rf {z0 : Nat} : Ends (MQ below (mQc z0 D post) args s mc ms (fun q => z0 ≤ q)) below args s z0 D post mc ms := fun _ h => h
theorem Ends.vx {z0 : Nat} : Ends (vx_MQ below (mQc z0 D post) (mXc z0 D px) args s mc ms (fun q => z0 ≤ q)) below args s z0 D post mc ms := fun t ⟨o, b1, b2, b3, b4⟩ => ⟨o, b1, b2, Or.inl ⟨b3, b4⟩⟩
theorem W.ends {z0 : Nat} {H : Heap} {locs : List Loc} {g : JFrame} (hQ : Ends Q below args s z0 D post mc ms) (h1 : cells ≤ mc) (h2 : slots ≤ ms) (k : W p l e R s m args below meth c H locs mc ms (MQ below (mQc z0 D post) args s mc ms (fun q => z0 ≤ q)) g) : W p l e R s m args below meth c H locs cells slots Q g := by
  refine W.widen h1 h2 ?_
  intro T hT X
  obtain ⟨t, a, b⟩ := k T hT X
  exact ⟨t, a, hQ t b⟩
theorem aw_iret {z0 : Nat} (C : Cx p s m args meth c cc own nL Ts (some .int) z0 D tys) (hQ : Ends Q below args s z0 D post mc ms) {v : Int32} (hp : post (some (.int v)) μ) (h1 : cells ≤ mc) (h2 : slots ≤ ms) (hdg : decode cc pc = .ok (.ireturn, 1)) : Aw p l e R s m args below meth c Q z0 D nL μ cells slots pc lv [.int v] := fun H locs ls g1 g2 g3 =>
  W.ends hQ h1 h2 (W.iret C.1 C.2.1 C.2.2.2.2.2.2.2.2 (fun t ht hW => ⟨⟨_, μ, rfl, hp, by rw [ht]; exact g1⟩, g2.F ht⟩) g2.2.2 hdg C.2.2.2.2.2.2.2.1)
theorem aw_zret {z0 : Nat} {ty : FieldType} (C : Cx p s m args meth c cc own nL Ts (some ty) z0 D tys) (hQ : Ends Q below args s z0 D post mc ms) {v : Int32} (hn : narrow ty (.int v) = .int v) (hp : post (some (.int v)) μ) (h1 : cells ≤ mc) (h2 : slots ≤ ms) (hdg : decode cc pc = .ok (.ireturn, 1)) : Aw p l e R s m args below meth c Q z0 D nL μ cells slots pc lv [.int v] := fun H locs ls g1 g2 g3 =>
  W.ends hQ h1 h2 (W.zret C.1 C.2.1 C.2.2.2.2.2.2.2.2 hn (fun t ht hW => ⟨⟨_, μ, rfl, hp, by rw [ht]; exact g1⟩, g2.F ht⟩) g2.2.2 hdg C.2.2.2.2.2.2.2.1)
theorem aw_dret {z0 : Nat} (C : Cx p s m args meth c cc own nL Ts (some .double) z0 D tys) (hQ : Ends Q below args s z0 D post mc ms) {v : UInt64} (hp : post (some (.double v)) μ) (h1 : cells ≤ mc) (h2 : slots ≤ ms) (hdg : decode cc pc = .ok (.dreturn, 1)) : Aw p l e R s m args below meth c Q z0 D nL μ cells slots pc lv [.double v] := fun H locs ls g1 g2 g3 =>
  W.ends hQ h1 h2 (W.dret C.1 C.2.1 C.2.2.2.2.2.2.2.2 (fun t ht hW => ⟨⟨_, μ, rfl, hp, by rw [ht]; exact g1⟩, g2.F ht⟩) g2.2.2 hdg C.2.2.2.2.2.2.2.1)
theorem aw_fret {z0 : Nat} (C : Cx p s m args meth c cc own nL Ts (some .float) z0 D tys) (hQ : Ends Q below args s z0 D post mc ms) {v : UInt32} (hp : post (some (.float v)) μ) (h1 : cells ≤ mc) (h2 : slots ≤ ms) (hdg : decode cc pc = .ok (.freturn, 1)) : Aw p l e R s m args below meth c Q z0 D nL μ cells slots pc lv [.float v] := fun H locs ls g1 g2 g3 =>
  W.ends hQ h1 h2 (W.fret C.1 C.2.1 C.2.2.2.2.2.2.2.2 (fun t ht hW => ⟨⟨_, μ, rfl, hp, by rw [ht]; exact g1⟩, g2.F ht⟩) g2.2.2 hdg C.2.2.2.2.2.2.2.1)
theorem aw_lret {z0 : Nat} (C : Cx p s m args meth c cc own nL Ts (some .long) z0 D tys) (hQ : Ends Q below args s z0 D post mc ms) {v : Int64} (hp : post (some (.long v)) μ) (h1 : cells ≤ mc) (h2 : slots ≤ ms) (hdg : decode cc pc = .ok (.lreturn, 1)) : Aw p l e R s m args below meth c Q z0 D nL μ cells slots pc lv [.long v] := fun H locs ls g1 g2 g3 =>
  W.ends hQ h1 h2 (W.lret C.1 C.2.1 C.2.2.2.2.2.2.2.2 (fun t ht hW => ⟨⟨_, μ, rfl, hp, by rw [ht]; exact g1⟩, g2.F ht⟩) g2.2.2 hdg C.2.2.2.2.2.2.2.1)
theorem aw_aret {z0 : Nat} {rt9 : FieldType} (C : Cx p s m args meth c cc own nL Ts (some rt9) z0 D tys) (hrt : (∃ n, rt9 = .object n) ∨ ∃ t, rt9 = .array t) (hQ : Ends Q below args s z0 D post mc ms) {v : Nat} (hp : post (some (.ref v)) μ) (h1 : cells ≤ mc) (h2 : slots ≤ ms) (hdg : decode cc pc = .ok (.areturn, 1)) : Aw p l e R s m args below meth c Q z0 D nL μ cells slots pc lv [.ref v] := fun H locs ls g1 g2 g3 =>
  W.ends hQ h1 h2 (W.aret C.1 C.2.1 C.2.2.2.2.2.2.2.2 hrt (Or.inr ⟨v, rfl⟩) (fun t ht hW => ⟨⟨_, μ, rfl, hp, by rw [ht]; exact g1⟩, g2.F ht⟩) g2.2.2 hdg C.2.2.2.2.2.2.2.1)
theorem aw_vret {z0 : Nat} (C : Cx p s m args meth c cc own nL Ts none z0 D tys) (hQ : Ends Q below args s z0 D post mc ms) (hp : post none μ) (h1 : cells ≤ mc) (h2 : slots ≤ ms) (hdg : decode cc pc = .ok (.return_, 1)) : Aw p l e R s m args below meth c Q z0 D nL μ cells slots pc lv [] := fun H locs ls g1 g2 g3 =>
  W.ends hQ h1 h2 (W.vret C.1 C.2.1 C.2.2.2.2.2.2.2.2 (fun t ht hW => ⟨⟨_, μ, rfl, hp, by rw [ht]; exact g1⟩, g2.F ht⟩) g2.2.2 hdg C.2.2.2.2.2.2.2.1)
/-! ===== starts ===== -/
theorem Ct.of {av : List Value} {f n0 k0 lo : Nat} (hy : plainName y.cls = true) (hw : ws = Cond.code y cc maxL ret :: ws') (ho : y.cls = own) (hmax : (lg_sl av).length ≤ maxL)
    (body : ∀ (p : Program) (e : Env) (s : State) (m : MethodId) (args : Array Value) (below : List Frame) (meth : Method) (c : Code) (Q : State → Prop), Cx p s m args meth c cc own maxL ws ret s0.heap.size D tys → EN s0 s → meth.name = y.name → Ends Q below args s s0.heap.size D post n0 k0 → Aw p l e (rmOf f n0 k0 lo) s m args below meth c Q s0.heap.size D maxL μ 0 0 0 (lv_args 0 av) []) : Ct l y ws (rmOf f n0 k0 lo) s0 D tys av μ n0 k0 post := by
  refine Met.ofW (cc := cc) (maxL := maxL) (ret := ret) hy hw ?_
  intro p e s m args below meth c s₁ B hml hv
  obtain ⟨rfl, hW, hK, hE⟩ := hv
  have hts := atoms_spec (ws := ws) B.pre
  have hown : s.vm.findClass own = some m.cls := by rw [← ho]; exact findClass_of_methodNamed B.named
  have hl := lv_entry av (n := maxL) hmax
  rw [lg_entry_eq]
  exact body p e s m _ below meth c _ ⟨B.exec, B.bytes, hml, hown, hts, hK, hE.2.1, B.notSynchronized, B.returns⟩ hE (name_of_methodNamed B.named B.method).1 Ends.rf s.heap [] _ hW va_S.rf hl
theorem Cy.of {av : List Value} {f n0 k0 lo : Nat} (hy : plainName y.cls = true) (hw : ws = Cond.code y cc maxL ret :: ws') (ho : y.cls = own) (hmax : (lg_sl av).length ≤ maxL)
    (body : ∀ (p : Program) (e : Env) (s : State) (m : MethodId) (args : Array Value) (below : List Frame) (meth : Method) (c : Code) (Q : State → Prop), Cx p s m args meth c cc own maxL ws ret s0.heap.size D tys → EN s0 s → (∀ x ∈ c.exceptionTable.toList, False) → Q = vx_MQ below (mQc s0.heap.size D post) (mXc s0.heap.size D px) args s n0 k0 (fun q => s0.heap.size ≤ q) → Ends Q below args s s0.heap.size D post n0 k0 → Aw p l e (rmOf f n0 k0 lo) s m args below meth c Q s0.heap.size D maxL μ 0 0 0 (lv_args 0 av) []) : Cy l y ws (rmOf f n0 k0 lo) s0 D tys av μ n0 k0 post px := by
  refine vx_ofW (cc := cc) (maxL := maxL) (ret := ret) hy hw ?_
  intro p e s m args below meth c s₁ B hml hnt hv
  obtain ⟨rfl, hW, hK, hE⟩ := hv
  have hts := atoms_spec (ws := ws) B.pre
  have hown : s.vm.findClass own = some m.cls := by rw [← ho]; exact findClass_of_methodNamed B.named
  have hl := lv_entry av (n := maxL) hmax
  rw [lg_entry_eq]
  exact body p e s m _ below meth c _ ⟨B.exec, B.bytes, hml, hown, hts, hK, hE.2.1, B.notSynchronized, B.returns⟩ hE hnt rfl Ends.vx s.heap [] _ hW va_S.rf hl
/-! ===== throwing ===== -/
/-- the two statics of Throwable that a new exception reads -/
def TZ (s0 : State) : Prop := vx_Zq Bundle.tN "UNASSIGNED_STACK" Bundle.steD (fun q => s0.heap.size ≤ q) s0 s0.heap ∧ vx_Zq Bundle.tN "SUPPRESSED_SENTINEL" Bundle.listD (fun q => s0.heap.size ≤ q) s0 s0.heap
theorem TZ.at {s : State} (h : TZ s0) (hE : EN s0 s) : vx_Zq Bundle.tN "UNASSIGNED_STACK" Bundle.steD (fun q => s0.heap.size ≤ q) s s.heap ∧ vx_Zq Bundle.tN "SUPPRESSED_SENTINEL" Bundle.listD (fun q => s0.heap.size ≤ q) s s.heap :=
  ⟨vx_Zq.moved hE.1.alike (h.1.kept (fun a ha _ => hE.2.2 a ha)), vx_Zq.moved hE.1.alike (h.2.kept (fun a ha _ => hE.2.2 a ha))⟩
abbrev xN : List String := ["java/lang/RuntimeException", "java/lang/Exception"]
def xB (cls : String) : List Cond := [.castable cls cls, .declares (Bundle.initS "java/lang/RuntimeException"), .declares (Bundle.initS "java/lang/Exception"), .declares (Bundle.initS "java/lang/Throwable")]
theorem xB.at {cls : String} {s : State} (hE : EN s0 s) {args : Array Value} (h : ∀ w ∈ xB cls, va_Nw w s0) : ∀ w ∈ xB cls, w.before args s = true :=
  vx_c (va_Nw.use rfl (va_Nw.warmC hE.1 (h _ (List.mem_of_getElem? (i := 0) rfl)))) (vx_c (va_Nw.use rfl (va_Nw.warmD hE.1 (h _ (List.mem_of_getElem? (i := 1) rfl)))) (vx_c (va_Nw.use rfl (va_Nw.warmD hE.1 (h _ (List.mem_of_getElem? (i := 2) rfl)))) (vx_c (va_Nw.use rfl (va_Nw.warmD hE.1 (h _ (List.mem_of_getElem? (i := 3) rfl)))) vx_n)))
theorem aw_throw {mc0 ms0 : Nat} {post0 : Option Value → mu → Prop} {px0 : String → mu → Prop} (C : Cx p s m args meth c cc own nL Ts ret s0.heap.size D tys) (hE : EN s0 s) (hQ : Q = vx_MQ below (mQc s0.heap.size D post0) (mXc s0.heap.size D px0) args s mc0 ms0 (fun q => s0.heap.size ≤ q)) (hnt : ∀ x ∈ c.exceptionTable.toList, False) (hl : l.stackTraces = false) (hZ : TZ s0) {cls text : String} {ik is ic : Nat} (hfit : Bundle.fit cls = true) (hk : Cond.classLink own ik cls ∈ Ts) (hini : Cond.initialized cls ∈ Ts) (hstr : ∃ sa, vk_R own is text sa s0)
    (hg : ∀ w ∈ (vx_atS own ic cls xN).filter goodWord, w ∈ Ts) (hb : ∀ w ∈ (vx_atS own ic cls xN).filter (fun w => !goodWord w), w ∈ xB cls) (hca : ∀ w ∈ xB cls, va_Nw w s0) (hok : ∀ w ∈ Cond.classLink own ik cls :: Cond.initialized cls :: vx_atS own ic cls xN, vx_ot w = true)
    (d0 : decode cc pc = .ok (.new ik, 3)) (d3 : decode cc (pc + 3) = .ok (.dup, 1)) (d4 : decode cc (pc + 4) = .ok (.ldc is, 2)) (d6 : decode cc (pc + 6) = .ok (.invokespecial ic, 3)) (d9 : decode cc (pc + 9) = .ok (.athrow, 1))
    (hRf : 5 < R.frames) (hRl : (st.map fun v => v.category).sum + 82 ≤ R.locals) (hRc : cells + 1 ≤ R.cells) (hRs : slots + 6 ≤ R.slots) (hc : cells + 1 ≤ mc0) (hs : slots + 6 ≤ ms0) (hpx : px0 cls μ) :
    Aw p l e R s m args below meth c Q s0.heap.size D nL μ cells slots pc lv st := by
  subst hQ
  intro H locs ls h1 h2 h3
  obtain ⟨sa, hsa⟩ := hstr
  obtain ⟨z1, z2⟩ := hZ.at hE
  refine vx_throwS C.1 C.2.1 hl C.2.2.2.1 hfit (by decide +kernel) (C.2.2.2.2.1 _ hk) (C.2.2.2.2.1 _ hini) (vk_R.warm hE.1 hsa) (names := xN) (vx_hat (fun w hw => C.2.2.2.2.1 _ (hg w hw)) hb (xB.at hE hca)) hok z1 z2 h2 (by rw [C.2.2.1]; exact h3.1) d0 d3 d4 d6 d9 (fun x hx => (hnt x hx).elim) hRf (by simp only [xN, List.length_cons, List.length_nil]; omega) hRc hRs C.2.2.2.2.2.2.2.1 (fun t hvm hz hq => ?_) h2.2.2 hc hs
  have hW : mW s0.heap.size D μ t.heap := fun a x ha => ⟨(h1 a x ha).1.kept (hq a (h1.lt ha)), (h1 a x ha).2⟩
  exact ⟨⟨μ, hpx, hW⟩, Nat.le_trans h2.1 hz, fun q g1 g2 => (hq q (Nat.lt_of_lt_of_le g1 h2.1)).trans (h2.2.1 q g1 g2)⟩
theorem aw_throwW {mc0 ms0 : Nat} {post0 : Option Value → mu → Prop} {px0 : String → mu → Prop} (C : Cx p s m args meth c cc own nL Ts ret s0.heap.size D tys) (hE : EN s0 s) (hQ : Q = vx_MQ below (mQc s0.heap.size D post0) (mXc s0.heap.size D px0) args s mc0 ms0 (fun q => s0.heap.size ≤ q)) (hnt : ∀ x ∈ c.exceptionTable.toList, False) (hl : l.stackTraces = false) (hZ : TZ s0) {cls text : String} {ik is ic : Nat} (hfit : Bundle.fit cls = true) (hk : Cond.classLink own ik cls ∈ Ts) (hini : Cond.initialized cls ∈ Ts) (hstr : ∃ sa, vk_R own is text sa s0)
    (hg : ∀ w ∈ (vx_atS own ic cls xN).filter goodWord, w ∈ Ts) (hb : ∀ w ∈ (vx_atS own ic cls xN).filter (fun w => !goodWord w), w ∈ xB cls) (hca : ∀ w ∈ xB cls, va_Nw w s0) (hok : ∀ w ∈ Cond.classLink own ik cls :: Cond.initialized cls :: vx_atS own ic cls xN, vx_ot w = true)
    (d0 : decode cc pc = .ok (.new ik, 3)) (d3 : decode cc (pc + 3) = .ok (.dup, 1)) (d4 : decode cc (pc + 4) = .ok (.ldc_w is, 3)) (d6 : decode cc (pc + 7) = .ok (.invokespecial ic, 3)) (d9 : decode cc (pc + 10) = .ok (.athrow, 1))
    (hRf : 5 < R.frames) (hRl : (st.map fun v => v.category).sum + 82 ≤ R.locals) (hRc : cells + 1 ≤ R.cells) (hRs : slots + 6 ≤ R.slots) (hc : cells + 1 ≤ mc0) (hs : slots + 6 ≤ ms0) (hpx : px0 cls μ) :
    Aw p l e R s m args below meth c Q s0.heap.size D nL μ cells slots pc lv st := by
  subst hQ
  intro H locs ls h1 h2 h3
  obtain ⟨sa, hsa⟩ := hstr
  obtain ⟨z1, z2⟩ := hZ.at hE
  refine vx_throwSW C.1 C.2.1 hl C.2.2.2.1 hfit (by decide +kernel) (C.2.2.2.2.1 _ hk) (C.2.2.2.2.1 _ hini) (vk_R.warm hE.1 hsa) (names := xN) (vx_hat (fun w hw => C.2.2.2.2.1 _ (hg w hw)) hb (xB.at hE hca)) hok z1 z2 h2 (by rw [C.2.2.1]; exact h3.1) d0 d3 d4 d6 d9 (fun x hx => (hnt x hx).elim) hRf (by simp only [xN, List.length_cons, List.length_nil]; omega) hRc hRs C.2.2.2.2.2.2.2.1 (fun t hvm hz hq => ?_) h2.2.2 hc hs
  have hW : mW s0.heap.size D μ t.heap := fun a x ha => ⟨(h1 a x ha).1.kept (hq a (h1.lt ha)), (h1 a x ha).2⟩
  exact ⟨⟨μ, hpx, hW⟩, Nat.le_trans h2.1 hz, fun q g1 g2 => (hq q (Nat.lt_of_lt_of_le g1 h2.1)).trans (h2.2.1 q g1 g2)⟩
end CALLS
/-! ===== rows as the generator lays them ===== -/
section GEN
variable {p : Program} {l : Launch} {e : Env} {R : Room} {s : State} {m : MethodId} {args : Array Value} {below : List Frame} {meth : Method} {c : Code} {Q : State → Prop}
variable {z0 : Nat} {D : va_G} {nL : Nat} {μ : mu} {cells slots : Nat} {pc : Nat} {lv : List (Nat × Value)} {st : List Value} {cc : ByteArray} {own : String} {Ts : List Cond} {ret : Option FieldType} {tys : List (ClassId × FieldType)}
theorem aw_putE (C : Cx p s m args meth c cc own nL Ts ret z0 D tys) {ref Cn : String} {index ci N k a : Nat} {T : u_T} {fs fs' : List Value} {v : Value} {ty : FieldType} (hF : FL Ts own index ci ref Cn T N k) (hT : FT T N) (hd : parseFieldDescriptor (T k).2.2.1 = some ty ∧ (T k).2.2.2 = false) (hn : narrow ty v = v) (hfit : fits ty v = true) (hm : μ a = some (.inr (ci, fs))) (hl : k < fs.length) (hset : fs.set k v = fs') (hdg : decode cc pc = .ok (.putfield index, 3))
    (kk : Aw p l e R s m args below meth c Q z0 D nL (mp μ a (.inr (ci, fs'))) cells slots (pc + 3) lv st) : Aw p l e R s m args below meth c Q z0 D nL μ cells slots pc lv (v :: .ref a :: st) := by
  subst hset
  exact aw_put C hF hT hd.2 hd.1 hn hfit hm hl hdg kk
theorem aw_putNE (C : Cx p s m args meth c cc own nL Ts ret z0 D tys) {s0 : State} (hE : EN s0 s) {ref Cn host : String} {index ci N k a : Nat} {T : u_T} {fs fs' : List Value} {v : Value} {ty : FieldType} (hF : FN s0 Ts own index ci ref Cn T N k host) (hT : FT T N) (hd : parseFieldDescriptor (T k).2.2.1 = some ty ∧ (T k).2.2.2 = false) (hn : narrow ty v = v) (hfit : fits ty v = true) (hm : μ a = some (.inr (ci, fs))) (hl : k < fs.length) (hset : fs.set k v = fs') (hdg : decode cc pc = .ok (.putfield index, 3))
    (kk : Aw p l e R s m args below meth c Q z0 D nL (mp μ a (.inr (ci, fs'))) cells slots (pc + 3) lv st) : Aw p l e R s m args below meth c Q z0 D nL μ cells slots pc lv (v :: .ref a :: st) := by
  subst hset
  exact aw_putN C hE hF hT hd.2 hd.1 hn hfit hm hl hdg kk
theorem aw_putFE (C : Cx p s m args meth c cc own nL Ts ret z0 D tys) {Cn : String} {index ci N k a : Nat} {T : u_T} {fs fs' : List Value} {v : Value} {ty : FieldType} (hF : FL Ts own index ci own Cn T N k) (hT : FT T N) (hd : parseFieldDescriptor (T k).2.2.1 = some ty ∧ (T k).2.2.2 = true ∧ (T k).1 = own) (hin2 : meth.name = "<init>") (hn : narrow ty v = v) (hfit : fits ty v = true) (hm : μ a = some (.inr (ci, fs))) (hl : k < fs.length) (hset : fs.set k v = fs') (hdg : decode cc pc = .ok (.putfield index, 3))
    (kk : Aw p l e R s m args below meth c Q z0 D nL (mp μ a (.inr (ci, fs'))) cells slots (pc + 3) lv st) : Aw p l e R s m args below meth c Q z0 D nL μ cells slots pc lv (v :: .ref a :: st) := by
  subst hset
  exact aw_putF C hF hT hd.2.1 hd.2.2 hin2 hd.1 hn hfit hm hl hdg kk
theorem ix_in {i : Int32} {j n : Nat} (hi : i = nI j) (hj : j < n ∧ n < 2 ^ 31) : vp_in i n ∧ i.toNatClampNeg = j := by
  subst hi
  exact ⟨vp_in_nI hj.1 hj.2, nI_clamp (by omega)⟩
theorem aw_ialdE {g : Nat → ClassId} (C : Cx p s m args meth c cc own nL Ts ret z0 D (tyL g)) {a n j : Nat} {f : Nat → Int32} {i v : Int32} (hm : μ a = some (eI g n f)) (hi : i = nI j) (hj : j < n ∧ n < 2 ^ 31) (hv : f j = v) (hdg : decode cc pc = .ok (.iaload, 1)) (kk : Aw p l e R s m args below meth c Q z0 D nL μ cells slots (pc + 1) lv (.int v :: st)) : Aw p l e R s m args below meth c Q z0 D nL μ cells slots pc lv (.int i :: .ref a :: st) :=
  aw_iald C hm (ix_in hi hj).1 (by rw [(ix_in hi hj).2]; exact hv) hdg kk
theorem aw_daldE {g : Nat → ClassId} (C : Cx p s m args meth c cc own nL Ts ret z0 D (tyL g)) {a n j : Nat} {f : Nat → UInt64} {i : Int32} {v : UInt64} (hm : μ a = some (eD g n f)) (hi : i = nI j) (hj : j < n ∧ n < 2 ^ 31) (hv : f j = v) (hdg : decode cc pc = .ok (.daload, 1)) (kk : Aw p l e R s m args below meth c Q z0 D nL μ cells slots (pc + 1) lv (.double v :: st)) : Aw p l e R s m args below meth c Q z0 D nL μ cells slots pc lv (.int i :: .ref a :: st) :=
  aw_dald C hm (ix_in hi hj).1 (by rw [(ix_in hi hj).2]; exact hv) hdg kk
theorem aw_laldE {g : Nat → ClassId} (C : Cx p s m args meth c cc own nL Ts ret z0 D (tyL g)) {a n j : Nat} {f : Nat → Int64} {i : Int32} {v : Int64} (hm : μ a = some (eJ g n f)) (hi : i = nI j) (hj : j < n ∧ n < 2 ^ 31) (hv : f j = v) (hdg : decode cc pc = .ok (.laload, 1)) (kk : Aw p l e R s m args below meth c Q z0 D nL μ cells slots (pc + 1) lv (.long v :: st)) : Aw p l e R s m args below meth c Q z0 D nL μ cells slots pc lv (.int i :: .ref a :: st) :=
  aw_lald C hm (ix_in hi hj).1 (by rw [(ix_in hi hj).2]; exact hv) hdg kk
theorem aw_aaldE (C : Cx p s m args meth c cc own nL Ts ret z0 D tys) {a n t0 j : Nat} {cA : ClassId} {En : String} {f : Nat → Option Nat} {i : Int32} {v : Nat} (ht : tys[t0]? = some (cA, .object En)) (hm : μ a = some (eQ cA n f)) (hi : i = nI j) (hj : j < n ∧ n < 2 ^ 31) (hv : f j = some v) (hdg : decode cc pc = .ok (.aaload, 1)) (kk : Aw p l e R s m args below meth c Q z0 D nL μ cells slots (pc + 1) lv (.ref v :: st)) : Aw p l e R s m args below meth c Q z0 D nL μ cells slots pc lv (.int i :: .ref a :: st) :=
  aw_aald C ht hm (ix_in hi hj).1 (by rw [(ix_in hi hj).2]; exact hv) hdg kk
theorem aw_iastE {g : Nat → ClassId} (C : Cx p s m args meth c cc own nL Ts ret z0 D (tyL g)) {a n j : Nat} {f : Nat → Int32} {i x : Int32} (hm : μ a = some (eI g n f)) (hi : i = nI j) (hj : j < n ∧ n < 2 ^ 31) (hdg : decode cc pc = .ok (.iastore, 1)) (kk : Aw p l e R s m args below meth c Q z0 D nL (mp μ a (eI g n (upd f j x))) cells slots (pc + 1) lv st) : Aw p l e R s m args below meth c Q z0 D nL μ cells slots pc lv (.int x :: .int i :: .ref a :: st) :=
  aw_iast C hm (ix_in hi hj).1 hdg (by rw [(ix_in hi hj).2]; exact kk)
theorem aw_dastE {g : Nat → ClassId} (C : Cx p s m args meth c cc own nL Ts ret z0 D (tyL g)) {a n j : Nat} {f : Nat → UInt64} {i : Int32} {x : UInt64} (hm : μ a = some (eD g n f)) (hi : i = nI j) (hj : j < n ∧ n < 2 ^ 31) (hdg : decode cc pc = .ok (.dastore, 1)) (kk : Aw p l e R s m args below meth c Q z0 D nL (mp μ a (eD g n (vf_upd f j x))) cells slots (pc + 1) lv st) : Aw p l e R s m args below meth c Q z0 D nL μ cells slots pc lv (.double x :: .int i :: .ref a :: st) :=
  aw_dast C hm (ix_in hi hj).1 hdg (by rw [(ix_in hi hj).2]; exact kk)
theorem aw_lastE {g : Nat → ClassId} (C : Cx p s m args meth c cc own nL Ts ret z0 D (tyL g)) {a n j : Nat} {f : Nat → Int64} {i : Int32} {x : Int64} (hm : μ a = some (eJ g n f)) (hi : i = nI j) (hj : j < n ∧ n < 2 ^ 31) (hdg : decode cc pc = .ok (.lastore, 1)) (kk : Aw p l e R s m args below meth c Q z0 D nL (mp μ a (eJ g n (vp_updL f j x))) cells slots (pc + 1) lv st) : Aw p l e R s m args below meth c Q z0 D nL μ cells slots pc lv (.long x :: .int i :: .ref a :: st) :=
  aw_last C hm (ix_in hi hj).1 hdg (by rw [(ix_in hi hj).2]; exact kk)
theorem aw_aastE (C : Cx p s m args meth c cc own nL Ts ret z0 D tys) {a n t0 ci v j : Nat} {cA : ClassId} {En : String} {r : vw_C} {f : Nat → Option Nat} {vs : List Value} {i : Int32} (ht : tys[t0]? = some (cA, .object En)) (hca : va_Nw (.castable r.1 En) s) (hc : vwCl[ci]? = some r) (hm : μ a = some (eQ cA n f)) (hv : μ v = some (.inr (ci, vs))) (hi : i = nI j) (hj : j < n ∧ n < 2 ^ 31) (hdg : decode cc pc = .ok (.aastore, 1)) (kk : Aw p l e R s m args below meth c Q z0 D nL (mp μ a (eQ cA n (va_up f j (some v)))) cells slots (pc + 1) lv st) : Aw p l e R s m args below meth c Q z0 D nL μ cells slots pc lv (.ref v :: .int i :: .ref a :: st) :=
  aw_aast C ht hca hc hm hv (ix_in hi hj).1 hdg (by rw [(ix_in hi hj).2]; exact kk)
/-- a name for what is on top -/
theorem aw_nmi {x : Int32} (k : ∀ y : Int32, y = x → Aw p l e R s m args below meth c Q z0 D nL μ cells slots pc lv (.int y :: st)) : Aw p l e R s m args below meth c Q z0 D nL μ cells slots pc lv (.int x :: st) := k x rfl
theorem aw_nml {x : Int64} (k : ∀ y : Int64, y = x → Aw p l e R s m args below meth c Q z0 D nL μ cells slots pc lv (.long y :: st)) : Aw p l e R s m args below meth c Q z0 D nL μ cells slots pc lv (.long x :: st) := k x rfl
theorem aw_nmd {x : UInt64} (k : ∀ y : UInt64, y = x → Aw p l e R s m args below meth c Q z0 D nL μ cells slots pc lv (.double y :: st)) : Aw p l e R s m args below meth c Q z0 D nL μ cells slots pc lv (.double x :: st) := k x rfl
theorem aw_eqi {x y : Int32} (h : x = y) (k : Aw p l e R s m args below meth c Q z0 D nL μ cells slots pc lv (.int y :: st)) : Aw p l e R s m args below meth c Q z0 D nL μ cells slots pc lv (.int x :: st) := by rw [h]; exact k
theorem aw_eqd {x y : UInt64} (h : x = y) (k : Aw p l e R s m args below meth c Q z0 D nL μ cells slots pc lv (.double y :: st)) : Aw p l e R s m args below meth c Q z0 D nL μ cells slots pc lv (.double x :: st) := by rw [h]; exact k
theorem aw_lcmp (C : Cx p s m args meth c cc own nL Ts ret z0 D tys) {x y : Int64} (hdg : decode cc pc = .ok (.lcmp, 1)) (k : Aw p l e R s m args below meth c Q z0 D nL μ cells slots (pc + 1) lv (.int (lg_cmp x y) :: st)) : Aw p l e R s m args below meth c Q z0 D nL μ cells slots pc lv (.long y :: .long x :: st) := fun H locs ls h1 h2 h3 =>
  W.lcmp C.1 C.2.1 hdg (k H locs ls h1 h2 h3)
end GEN
theorem ftX0 : FT TX0 12 := ⟨⟨tyX0, tyX0_ok⟩, nmX0⟩
theorem ftX1 : FT TX1 2 := ⟨⟨tyX1, tyX1_ok⟩, nmX1⟩
theorem ftX2 : FT TX2 10 := ⟨⟨tyX2, tyX2_ok⟩, nmX2⟩
theorem ftX3 : FT TX3 5 := ⟨⟨tyX3, tyX3_ok⟩, nmX3⟩
theorem ftX4 : FT TX4 16 := ⟨⟨tyX4, tyX4_ok⟩, nmX4⟩
theorem ftX5 : FT TX5 12 := ⟨⟨tyX5, tyX5_ok⟩, nmX5⟩
theorem ftX6 : FT TX6 5 := ⟨⟨tyX6, tyX6_ok⟩, nmX6⟩
theorem ftX7 : FT TX7 22 := ⟨⟨tyX7, tyX7_ok⟩, nmX7⟩
theorem ftJA : FT TJx4a65c 3 := ⟨⟨tyJx4a65c, tyJx4a65c_ok⟩, nmJx4a65c⟩
theorem ftJI : FT TJx35411 4 := ⟨⟨tyJx35411, tyJx35411_ok⟩, nmJx35411⟩
section GEN2
variable {p : Program} {l : Launch} {e : Env} {R : Room} {s : State} {m : MethodId} {args : Array Value} {below : List Frame} {meth : Method} {c : Code} {Q : State → Prop}
variable {z0 : Nat} {D : va_G} {nL : Nat} {μ : mu} {cells slots : Nat} {pc : Nat} {lv : List (Nat × Value)} {st st' : List Value}
theorem aw_st (h : st = st') (k : Aw p l e R s m args below meth c Q z0 D nL μ cells slots pc lv st') : Aw p l e R s m args below meth c Q z0 D nL μ cells slots pc lv st := by rw [h]; exact k
variable {cc : ByteArray} {own : String} {Ts : List Cond} {ret : Option FieldType} {tys : List (ClassId × FieldType)}
theorem aw_iushr (C : Cx p s m args meth c cc own nL Ts ret z0 D tys) {x y : Int32} (hdg : decode cc pc = .ok (.iushr, 1)) (k : Aw p l e R s m args below meth c Q z0 D nL μ cells slots (pc + 1) lv (.int (x.toUInt32 >>> (y.toUInt32 &&& Int32.toUInt32 31)).toInt32 :: st)) : Aw p l e R s m args below meth c Q z0 D nL μ cells slots pc lv (.int y :: .int x :: st) := fun H locs ls h1 h2 h3 => lv_iushr C.1 C.2.1 hdg rfl (k H locs ls h1 h2 h3)
theorem aw_ldcw (C : Cx p s m args meth c cc own nL Ts ret z0 D tys) {index : Nat} {v : Int32} (hc : Cond.constant own index v ∈ Ts) (hdg : decode cc pc = .ok (.ldc_w index, 3)) (k : Aw p l e R s m args below meth c Q z0 D nL μ cells slots (pc + 3) lv (.int v :: st)) : Aw p l e R s m args below meth c Q z0 D nL μ cells slots pc lv st := fun H locs ls h1 h2 h3 => lv_ldcw C.1 C.2.1 C.2.2.2.1 (C.2.2.2.2.1 _ hc) hdg (k H locs ls h1 h2 h3)
theorem aw_d2raw (C : Cx p s m args meth c cc own nL Ts ret z0 D tys) {index : Nat} {x : UInt64} (h1 : Cond.methodLink own index ⟨"java/lang/Double", "doubleToRawLongBits", "(D)J"⟩ ∈ Ts) (h2 : Cond.native ⟨"java/lang/Double", "doubleToRawLongBits", "(D)J"⟩ ∈ Ts) (h3 : Cond.static ⟨"java/lang/Double", "doubleToRawLongBits", "(D)J"⟩ ∈ Ts) (h4 : Cond.initialized "java/lang/Double" ∈ Ts) (hf : 1 ≤ R.frames) (hlo : (st.map fun v => v.category).sum + 15 ≤ R.locals) (hdg : decode cc pc = .ok (.invokestatic index, 3)) (k : Aw p l e R s m args below meth c Q z0 D nL μ cells slots (pc + 3) lv (.long x.toInt64 :: st)) : Aw p l e R s m args below meth c Q z0 D nL μ cells slots pc lv (.double x :: st) := fun H locs ls g1 g2 g3 =>
  vn_d2l C.1 C.2.1 (by rw [C.2.2.1]; exact g3.1.symm) C.2.2.2.1 (C.2.2.2.2.1 _ h1) (C.2.2.2.2.1 _ h2) (C.2.2.2.2.1 _ h3) (C.2.2.2.2.1 _ h4) hf hlo hdg (k H locs ls g1 g2 g3)
theorem aw_raw2d (C : Cx p s m args meth c cc own nL Ts ret z0 D tys) {index : Nat} {x : Int64} (hsn : vn_snl2d x = false) (h1 : Cond.methodLink own index ⟨"java/lang/Double", "longBitsToDouble", "(J)D"⟩ ∈ Ts) (h2 : Cond.native ⟨"java/lang/Double", "longBitsToDouble", "(J)D"⟩ ∈ Ts) (h3 : Cond.static ⟨"java/lang/Double", "longBitsToDouble", "(J)D"⟩ ∈ Ts) (h4 : Cond.initialized "java/lang/Double" ∈ Ts) (hf : 1 ≤ R.frames) (hlo : (st.map fun v => v.category).sum + 15 ≤ R.locals) (hdg : decode cc pc = .ok (.invokestatic index, 3)) (k : Aw p l e R s m args below meth c Q z0 D nL μ cells slots (pc + 3) lv (.double x.toUInt64 :: st)) : Aw p l e R s m args below meth c Q z0 D nL μ cells slots pc lv (.long x :: st) := fun H locs ls g1 g2 g3 =>
  vn_l2d C.1 C.2.1 (by rw [C.2.2.1]; exact g3.1.symm) C.2.2.2.1 (C.2.2.2.2.1 _ h1) (C.2.2.2.2.1 _ h2) (C.2.2.2.2.1 _ h3) (C.2.2.2.2.1 _ h4) hsn hf hlo hdg (k H locs ls g1 g2 g3)
end GEN2
theorem ge_of {x : Int32} {i n : Nat} (hx : x = nI i) (hn : n < 2 ^ 31) (hi : i < 2 ^ 31) (h : nI n ≤ x) : n ≤ i := by
  rw [hx] at h
  exact (nI_leI hn hi).mp h
theorem lt_of {x : Int32} {i n : Nat} (hx : x = nI i) (hn : n < 2 ^ 31) (hi : i < 2 ^ 31) (h : ¬ nI n ≤ x) : i < n := by
  rcases Nat.lt_or_ge i n with q | q
  · exact q
  · exact absurd (by rw [hx]; exact nI_le q hi) h
