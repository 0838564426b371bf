/-! ===== the law: rules for its wrappers (methods with a table of handlers), its own calls ===== -/
/-- what is asked of the start for the law: the rest's, and what an exception is not -/
def LB (s0 : State) : Prop := Base s0 ∧ va_Nc ISE IAE s0 ∧ va_Nc ISE IOB s0 ∧ va_Nc IAE IOB s0
theorem LB.B {s0 : State} (h : LB s0) : Base s0 := h.1
section LWR
variable {p : Program} {l : Launch} {e : Env} {R : Room} {s s0 : State} {m : MethodId} {args : Array Value} {below : List Frame} {meth : Method} {c : Code} {Q : State → Prop}
variable {D : va_G} {nL : Nat} {μ : mu} {cells slots : Nat} {pc : Nat} {lv : List (Nat × Value)} {st rest As : List Value} {cc : ByteArray} {own : String} {Ts ws ws' : List Cond} {ret rt : Option FieldType} {tys : List (ClassId × FieldType)}
variable {y : MethodName} {rm : Room} {mc ms n index maxL : Nat} {bytes : ByteArray} {post : Option Value → mu → Prop} {px : String → mu → Prop}
theorem Cy.ofH {hh : List (Nat × Nat × Nat × Nat)} {av : List Value} {f n0 k0 lo : Nat} (hy : plainName y.cls = true) (hw : ws = Cond.codeWith y cc maxL ret hh :: ws') (ho : y.cls = own) (hmax : (lg_sl av).length ≤ maxL)
    (body : ∀ (p : Program) (e : Env) (s : State) (m : MethodId) (args : Array Value) (below : List Frame) (meth : Method) (c : Code) (Q : State → Prop), Cx p s m args meth c cc own maxL ws ret s0.heap.size D tys → EN s0 s → c.exceptionTable.toList = tableOf hh → Ends Q below args s s0.heap.size D post n0 k0 → Aw p l e (rmOf f n0 k0 lo) s m args below meth c Q s0.heap.size D maxL μ 0 0 0 (lv_args 0 av) []) : Cy l y ws (rmOf f n0 k0 lo) s0 D tys av μ n0 k0 post px := by
  refine vx_ofWH (cc := cc) (maxL := maxL) (ret := ret) (hh := hh) hy hw ?_
  intro p e s m args below meth c s₁ B hml hv
  obtain ⟨rfl, hW, hK, hE⟩ := hv
  have hts := atoms_spec (ws := ws) B.pre
  have hown : s.vm.findClass own = some m.cls := by rw [← ho]; exact findClass_of_methodNamed B.named
  have hT := vx_table (x := y) B (hts _ (by rw [hw]; exact List.mem_cons_self))
  have hl := lv_entry av (n := maxL) hmax
  rw [lg_entry_eq]
  exact body p e s m _ below meth c _ ⟨B.exec, B.bytes, hml, hown, hts, hK, hE.2.1, B.notSynchronized, B.returns⟩ hE hT Ends.vx s.heap [] _ hW va_S.rf hl
/-- what is thrown is caught here -/
def Cau (c : Code) (own : String) (Ts : List Cond) (s0 : State) (pc : Nat) (E : String) (tgt : Nat) : Prop := ∃ (pre : List ExceptionTableEntry) (x : ExceptionTableEntry) (suf : List ExceptionTableEntry) (nm : String), c.exceptionTable.toList = pre ++ x :: suf ∧ (∀ z ∈ pre, covers z pc = false ∨ (z.catchType ≠ 0 ∧ ∃ n2 : String, Cond.classLink own z.catchType n2 ∈ Ts ∧ va_Nc E n2 s0)) ∧ covers x pc = true ∧ x.catchType ≠ 0 ∧ Cond.classLink own x.catchType nm ∈ Ts ∧ va_Nw (.castable E nm) s0 ∧ x.handlerPc = tgt
theorem ax_callVc (C : Cx p s m args meth c cc own nL Ts ret s0.heap.size D tys) (hE : EN s0 s) {b ci : Nat} {q : vw_C} {fs : List Value}
    (hM : Cy l y ws rm s0 D tys (.ref b :: As) μ mc ms post px) (hG : GoodIn Ts (wsV own index q.1 y ws)) (hw : ws = Cond.code y bytes maxL rt :: ws') (hrm : rm.cells = mc ∧ rm.slots = ms) (hd : y.cls = q.1 ∧ y.cls ≠ "java/lang/invoke/MethodHandle" ∧ y.cls ≠ "java/lang/invoke/VarHandle" ∧ (parseMethodDescriptor y.desc).map (fun d => d.parameters.length) = some n) (hR : rm.frames + 1 ≤ R.frames ∧ 8 + (maxL + 11) + rm.locals ≤ R.locals)
    (hn : As.length = n) (hc : vwCl[ci]? = some q) (hm : μ b = some (.inr (ci, fs))) (hst : st = As.reverse ++ .ref b :: rest) (hcat : (rest.map fun v => v.category).sum ≤ 8) (hdg : decode cc pc = .ok (.invokevirtual index, 3)) (hf : cells + mc ≤ R.cells ∧ slots + ms ≤ R.slots)
    (kx : ∀ (E : String) (μ' : mu), px E μ' → ∃ tgt, Cau c own Ts s0 pc E tgt ∧ ∀ q9 : Nat, Aw p l e R s m args below meth c Q s0.heap.size D nL μ' (cells + mc) (slots + ms) tgt lv [.ref q9])
    (kk : ∀ (v : Option Value) (μ' : mu), post v μ' → Aw p l e R s m args below meth c Q s0.heap.size D nL μ' (cells + mc) (slots + ms) (pc + 3) lv (v.toList ++ rest)) : Aw p l e R s m args below meth c Q s0.heap.size D nL μ cells slots pc lv st := by
  subst hst
  exact fun H locs ls h1 h2 h3 => m_xcall (vx_runV ⟨C.1, C.2.1, C.2.2.1, C.2.2.2.1, C.2.2.2.2.1⟩ hM (cwV n C.2.2.2.2.1 hG hw hrm.1 hrm.2 hd hR) ⟨mPc.blind, va_recv C.2.2.2.2.2.1 (h1.P hm) hc (q0 := 0) rfl, m_pre C hE h1 h2⟩ rfl hn h3.1 rfl (lv_room hcat) hdg hf) h2
    (fun E ce q9 μ' H1 locs1 hp hw h4 g1 g2 g3 => by
      obtain ⟨tgt, ⟨pre, x, suf, nm, e1, e2, e3, e4, e5, e6, e8⟩, e7⟩ := kx E μ' hp
      subst e8
      exact vx_catch C.2.2.2.1 pre x suf e1 (fun z hz => (e2 z hz).imp_right (fun ⟨a, n2, b1, b2⟩ => ⟨a, n2, C.2.2.2.2.1 _ b1, b2.moved hE.1.alike⟩)) e3 e4 (C.2.2.2.2.1 _ e5) ((va_Nw.warmC hE.1 e6).use rfl) g1 g2 g3 (e7 q9 H1 locs1 ls hw h4 h3))
    (fun v μ' H1 locs1 hp hw h4 => kk v μ' hp H1 locs1 ls hw h4 h3)
/-- a call of a method that could throw, but doesn't here -/
theorem aw_callV0 (C : Cx p s m args meth c cc own nL Ts ret s0.heap.size D tys) (hE : EN s0 s) {b ci : Nat} {q : vw_C} {fs : List Value}
    (hM : Cy l y ws rm s0 D tys (.ref b :: As) μ mc ms post px) (hG : GoodIn Ts (wsV own index q.1 y ws)) (hw : ws = Cond.code y bytes maxL rt :: ws') (hrm : rm.cells = mc ∧ rm.slots = ms) (hd : y.cls = q.1 ∧ y.cls ≠ "java/lang/invoke/MethodHandle" ∧ y.cls ≠ "java/lang/invoke/VarHandle" ∧ (parseMethodDescriptor y.desc).map (fun d => d.parameters.length) = some n) (hR : rm.frames + 1 ≤ R.frames ∧ 8 + (maxL + 11) + rm.locals ≤ R.locals)
    (hn : As.length = n) (hc : vwCl[ci]? = some q) (hm : μ b = some (.inr (ci, fs))) (hst : st = As.reverse ++ .ref b :: rest) (hcat : (rest.map fun v => v.category).sum ≤ 8) (hdg : decode cc pc = .ok (.invokevirtual index, 3)) (hf : cells + mc ≤ R.cells ∧ slots + ms ≤ R.slots)
    (kx : ∀ (E : String) (μ' : mu), px E μ' → False)
    (kk : ∀ (v : Option Value) (μ' : mu), post v μ' → Aw p l e R s m args below meth c Q s0.heap.size D nL μ' (cells + mc) (slots + ms) (pc + 3) lv (v.toList ++ rest)) : Aw p l e R s m args below meth c Q s0.heap.size D nL μ cells slots pc lv st := by
  subst hst
  exact fun H locs ls h1 h2 h3 => m_xcall (vx_runV ⟨C.1, C.2.1, C.2.2.1, C.2.2.2.1, C.2.2.2.2.1⟩ hM (cwV n C.2.2.2.2.1 hG hw hrm.1 hrm.2 hd hR) ⟨mPc.blind, va_recv C.2.2.2.2.2.1 (h1.P hm) hc (q0 := 0) rfl, m_pre C hE h1 h2⟩ rfl hn h3.1 rfl (lv_room hcat) hdg hf) h2
    (fun E ce q9 μ' H1 locs1 hp hw h4 g1 g2 g3 => (kx E μ' hp).elim)
    (fun v μ' H1 locs1 hp hw h4 => kk v μ' hp H1 locs1 ls hw h4 h3)
/-- a wrapper's call -/
theorem aw_callSX {hh : List (Nat × Nat × Nat × Nat)} (C : Cx p s m args meth c cc own nL Ts ret s0.heap.size D tys) (hE : EN s0 s)
    (hM : Cy l y ws rm s0 D tys As μ mc ms post px) (hG : GoodIn Ts (va_wsS own index y ws)) (hw : ws = Cond.codeWith y bytes maxL rt hh :: ws') (hrm : rm.cells = mc ∧ rm.slots = ms) (hd : y.cls ≠ "java/lang/invoke/MethodHandle" ∧ y.cls ≠ "java/lang/invoke/VarHandle" ∧ (parseMethodDescriptor y.desc).map (fun d => d.parameters.length) = some n) (hR : rm.frames + 1 ≤ R.frames ∧ 8 + (maxL + 11) + rm.locals ≤ R.locals)
    (hn : As.length = n) (hst : st = As.reverse ++ rest) (hcat : (rest.map fun v => v.category).sum ≤ 8) (hdg : decode cc pc = .ok (.invokestatic index, 3)) (hf : cells + mc ≤ R.cells ∧ slots + ms ≤ R.slots)
    (kx : ∀ (E : String) (μ' : mu), px E μ' → False)
    (kk : ∀ (v : Option Value) (μ' : mu), post v μ' → Aw p l e R s m args below meth c Q s0.heap.size D nL μ' (cells + mc) (slots + ms) (pc + 3) lv (v.toList ++ rest)) : Aw p l e R s m args below meth c Q s0.heap.size D nL μ cells slots pc lv st := by
  subst hst
  exact fun H locs ls h1 h2 h3 => m_xcall (vx_runSX ⟨C.1, C.2.1, C.2.2.1, C.2.2.2.1, C.2.2.2.2.1⟩ hM (vx_cwSW n C.2.2.2.2.1 hG hw hrm.1 hrm.2 hd hR) ⟨mPc.blind, m_pre C hE h1 h2⟩ rfl hn h3.1 rfl (lv_room hcat) hdg hf) h2
    (fun E ce q9 μ' H1 locs1 hp hw h4 g1 g2 g3 => (kx E μ' hp).elim)
    (fun v μ' H1 locs1 hp hw h4 => kk v μ' hp H1 locs1 ls hw h4 h3)
/-- the script -/
theorem aw_sld (C : Cx p s m args meth c cc own nL Ts ret s.heap.size D tys) {b L k : Nat} {xs : Nat → Int32} (hX : va_X b L xs s s.heap) (hbl : b < s.heap.size) (hk : k < L) (hL : L ≤ 2048) (hdg : decode cc pc = .ok (.iaload, 1))
    (kk : Aw p l e R s m args below meth c Q s.heap.size D nL μ cells slots (pc + 1) lv (.int (xs k) :: st)) : Aw p l e R s m args below meth c Q s.heap.size D nL μ cells slots pc lv (.int (nI k) :: .ref b :: st) := fun H locs ls h1 h2 h3 => by
  have ek : (nI k).toNatClampNeg = k := nI_clamp (by omega)
  have hin : vp_in (nI k) L := fun q => q.elim (fun z => nI_pos (by omega) z) (fun z => by rw [ek] at z; omega)
  refine va_sld (i := nI k) C.1 C.2.1 hX hbl (A := fun q => s.heap.size ≤ q) (Nat.not_le.mpr hbl) h2 hin hdg ?_
  rw [ek]
  exact kk H locs ls h1 h2 h3
theorem aw_slen (C : Cx p s m args meth c cc own nL Ts ret s.heap.size D tys) {b L : Nat} {xs : Nat → Int32} (hX : va_X b L xs s s.heap) (hbl : b < s.heap.size) (hdg : decode cc pc = .ok (.arraylength, 1))
    (kk : Aw p l e R s m args below meth c Q s.heap.size D nL μ cells slots (pc + 1) lv (.int (nI L) :: st)) : Aw p l e R s m args below meth c Q s.heap.size D nL μ cells slots pc lv (.ref b :: st) := fun H locs ls h1 h2 h3 =>
  va_slen C.1 C.2.1 hX hbl (A := fun q => s.heap.size ≤ q) (Nat.not_le.mpr hbl) h2 hdg (kk H locs ls h1 h2 h3)
end LWR
theorem px9_1 {a E : String} {cd : Nat} (h : px9 [a] cd E) : cd = 1 ∧ E = a := by
  obtain ⟨h1, h2⟩ := h
  rcases (show cd = 1 ∨ 2 ≤ cd by omega) with rfl | q
  · exact ⟨rfl, (Option.some.inj h2).symm⟩
  · rw [List.getElem?_eq_none (by show 1 ≤ cd - 1; omega)] at h2; cases h2
theorem px9_2 {a b E : String} {cd : Nat} (h : px9 [a, b] cd E) : (cd = 1 ∧ E = a) ∨ (cd = 2 ∧ E = b) := by
  obtain ⟨h1, h2⟩ := h
  rcases (show cd = 1 ∨ cd = 2 ∨ 3 ≤ cd by omega) with rfl | rfl | q
  · exact Or.inl ⟨rfl, (Option.some.inj h2).symm⟩
  · exact Or.inr ⟨rfl, (Option.some.inj h2).symm⟩
  · rw [List.getElem?_eq_none (by show 2 ≤ cd - 1; omega)] at h2; cases h2
theorem px9_3 {a b d E : String} {cd : Nat} (h : px9 [a, b, d] cd E) : (cd = 1 ∧ E = a) ∨ (cd = 2 ∧ E = b) ∨ (cd = 3 ∧ E = d) := by
  obtain ⟨h1, h2⟩ := h
  rcases (show cd = 1 ∨ cd = 2 ∨ cd = 3 ∨ 4 ≤ cd by omega) with rfl | rfl | rfl | q
  · exact Or.inl ⟨rfl, (Option.some.inj h2).symm⟩
  · exact Or.inr (Or.inl ⟨rfl, (Option.some.inj h2).symm⟩)
  · exact Or.inr (Or.inr ⟨rfl, (Option.some.inj h2).symm⟩)
  · rw [List.getElem?_eq_none (by show 3 ≤ cd - 1; omega)] at h2; cases h2
theorem px9_0 {E : String} {cd : Nat} (h : px9 [] cd E) : False := by
  obtain ⟨h1, h2⟩ := h
  cases h2
/-- what a wrapper leaves alone -/
def FrO (L : Nat → Nat → Nat) (o : Nat) (μ μ' : mu) : Prop := ∀ (a : Nat) (e : va_E), μ a = some e → (∀ k i, vC k i → a ≠ L k i) → a ≠ o → μ' a = some e
theorem FrC.O {L : Nat → Nat → Nat} {o : Nat} {μ μ' : mu} (h : FrC L μ μ') : FrO L o μ μ' := fun a e ha hn _ => h a e ha hn
theorem FrO.wr {L : Nat → Nat → Nat} {o : Nat} {μ μ' : mu} {e : va_E} (h : FrO L o μ μ') : FrO L o μ (mp μ' o e) := fun a x ha hn ho => mp_k (h a x ha hn ho) ho
theorem RX.wr {g : Nat → ClassId} {L : Nat → Nat → Nat} {S : SS} {μ : mu} {o : Nat} {e : va_E} (h : RX g L S μ) (hn : ∀ k i, vC k i → o ≠ L k i) : RX g L S (mp μ o e) := by
  obtain ⟨fh, fv, h⟩ := h
  have q {k i : Nat} {x : va_E} (hx : μ (L k i) = some x) (hv : vC k i) : mp μ o e (L k i) = some x := mp_k hx (fun z => hn k i hv z.symm)
  exact ⟨fh, fv, h.li, q h.mn (v0 (by decide)), q h.aA (v0 (by decide)), q h.aQ (v0 (by decide)), q h.mt (v0 (by decide)), q h.fl (v0 (by decide)), fun i hi => q (h.ar hi) (v5 (by decide) hi), fun i hi => q (h.qu hi) (v5 (by decide) hi), fun i hi => q (h.st hi) (v5 (by decide) hi), fun i hi => q (h.hh hi) (v5 (by decide) hi), fun i hi => q (h.vv hi) (v5 (by decide) hi)⟩
/-- the cells of one side stay, where the other's are written -/
theorem RX.kp {g : Nat → ClassId} {L : Nat → Nat → Nat} {S : SS} {μ μ' : mu} (h : RX g L S μ) (hk : ∀ k i e, vC k i → μ (L k i) = some e → μ' (L k i) = some e) : RX g L S μ' := by
  obtain ⟨fh, fv, h⟩ := h
  exact ⟨fh, fv, h.li, hk _ _ _ (v0 (by decide)) h.mn, hk _ _ _ (v0 (by decide)) h.aA, hk _ _ _ (v0 (by decide)) h.aQ, hk _ _ _ (v0 (by decide)) h.mt, hk _ _ _ (v0 (by decide)) h.fl, fun i hi => hk _ _ _ (v5 (by decide) hi) (h.ar hi), fun i hi => hk _ _ _ (v5 (by decide) hi) (h.qu hi), fun i hi => hk _ _ _ (v5 (by decide) hi) (h.st hi), fun i hi => hk _ _ _ (v5 (by decide) hi) (h.hh hi), fun i hi => hk _ _ _ (v5 (by decide) hi) (h.vv hi)⟩
theorem RM.kp {g : Nat → ClassId} {K : Nat → Nat → Nat} {e0 : Nat} {S : SS} {X : XS} {μ μ' : mu} (h : RM g K e0 S X μ) (hk : ∀ k i e, vM S.nA S.nQ k i → μ (K k i) = some e → μ' (K k i) = some e) : RM g K e0 S X μ' :=
  ⟨h.ki, hk _ _ _ (m0 (by decide)) h.mo, hk _ _ _ (m0 (by decide)) h.aL, hk _ _ _ (m0 (by decide)) h.qL, hk _ _ _ (m0 (by decide)) h.pa, hk _ _ _ (m0 (by decide)) h.po, hk _ _ _ (m0 (by decide)) h.su, fun z => hk _ _ _ (m6 z) (h.aE z), fun z => hk _ _ _ (m7 z) (h.qE z), fun i hi => hk _ _ _ (m8 hi) (h.xa hi), fun i hi => hk _ _ _ (m9 (by decide) hi) (h.xq hi), fun i hi => hk _ _ _ (m9 (by decide) hi) (h.wh hi), fun i hi => hk _ _ _ (m9 (by decide) hi) (h.hh hi), fun i hi => hk _ _ _ (m9 (by decide) hi) (h.vv hi)⟩
theorem RX.some {g : Nat → ClassId} {L : Nat → Nat → Nat} {S : SS} {μ : mu} (h : RX g L S μ) {k i : Nat} (hv : vC k i) : ∃ e, μ (L k i) = some e := by
  obtain ⟨fh, fv, h⟩ := h
  rcases hv with ⟨h1, rfl⟩ | ⟨h1, h2, h3⟩
  · have : k = 0 ∨ k = 1 ∨ k = 2 ∨ k = 3 ∨ k = 4 := by omega
    rcases this with rfl | rfl | rfl | rfl | rfl
    · exact ⟨_, h.mn⟩
    · exact ⟨_, h.aA⟩
    · exact ⟨_, h.aQ⟩
    · exact ⟨_, h.mt⟩
    · exact ⟨_, h.fl⟩
  · have : k = 5 ∨ k = 6 ∨ k = 7 ∨ k = 8 ∨ k = 9 := by omega
    rcases this with rfl | rfl | rfl | rfl | rfl
    · exact ⟨_, h.ar h3⟩
    · exact ⟨_, h.qu h3⟩
    · exact ⟨_, h.st h3⟩
    · exact ⟨_, h.hh h3⟩
    · exact ⟨_, h.vv h3⟩
