/-! ===== Math.abs(D)D and Math.min(FF)F: methods in whose place an entry of the table of natives runs ===== -/
def ovAbs : NativeRow := (NativeRow.find? Jvm.natives "java/lang/Math" "abs" "(D)D").get (by decide +kernel)
def ovMin : NativeRow := (NativeRow.find? Jvm.natives "java/lang/Math" "min" "(FF)F").get (by decide +kernel)
set_option maxRecDepth 100000 in
theorem ovAbs_row (p : Program) : NativeRow.find? p.tables.natives "java/lang/Math" "abs" "(D)D" = some ovAbs := by
  cases p <;> rfl
set_option maxRecDepth 100000 in
theorem ovMin_row (p : Program) : NativeRow.find? p.tables.natives "java/lang/Math" "min" "(FF)F" = some ovMin := by
  cases p <;> rfl
set_option maxRecDepth 100000 in
theorem ovAbs_run {a : UInt64} (ha : vf_n64 a) (e : Env) (S : State) : ∃ acts, (ovAbs.sem #[.double a]).run e S = .ok (some (.double (a &&& 0x7fffffffffffffff))) S acts := by
  have hsem : ovAbs.sem #[.double a] = (do
      let r ← anyNaN64 (a &&& 0x7fffffffffffffff)
      mark "nat.java_lang_Math.abs"
      Pure.pure (some (.double r))) := rfl
  have hn : (a &&& 0x7fffffffffffffff) &&& 0x7fffffffffffffff ≤ 0x7ff0000000000000 := by rw [UInt64.and_assoc, UInt64.and_self]; exact ha
  have hw : wpRun (ovAbs.sem #[.double a]) (fun v s₂ _ => v = some (.double (a &&& 0x7fffffffffffffff)) ∧ s₂ = S) (fun _ _ _ => False) e S := by
    rw [hsem]
    simp [jvm, wpRun, anyNaN64, hn]
  have hw' := (wpRun_iff_run _ _ _ _ _).mp hw
  cases hr : (ovAbs.sem #[.double a]).run e S with
  | ok v s₂ acts₂ => rw [hr] at hw'; obtain ⟨rfl, rfl⟩ := hw'; exact ⟨_, rfl⟩
  | ctl x s₂ acts₂ => rw [hr] at hw'; cases x <;> exact hw'.elim
def mn32 (a b : UInt32) : UInt32 := Native.java_lang_Math.nans.pick32 false a b
set_option maxRecDepth 100000 in
theorem ovMin_run {a b : UInt32} (ha : FP.fIsNaN a = false) (hb : FP.fIsNaN b = false) (e : Env) (S : State) : ∃ acts, (ovMin.sem #[.float a, .float b]).run e S = .ok (some (.float (mn32 a b))) S acts := by
  have hsem : ovMin.sem #[.float a, .float b] = (do
      let r ← if FP.fIsNaN a then anyNaN32 a else if FP.fIsNaN b then anyNaN32 b else Pure.pure (mn32 a b)
      mark "nat.java_lang_Math.min/float"
      Pure.pure (some (.float r))) := rfl
  have hw : wpRun (ovMin.sem #[.float a, .float b]) (fun v s₂ _ => v = some (.float (mn32 a b)) ∧ s₂ = S) (fun _ _ _ => False) e S := by
    rw [hsem]
    simp [jvm, wpRun, ha, hb]
  have hw' := (wpRun_iff_run _ _ _ _ _).mp hw
  cases hr : (ovMin.sem #[.float a, .float b]).run e S with
  | ok v s₂ acts₂ => rw [hr] at hw'; obtain ⟨rfl, rfl⟩ := hw'; exact ⟨_, rfl⟩
  | ctl x s₂ acts₂ => rw [hr] at hw'; cases x <;> exact hw'.elim
/-- the entry that stands in the method's place -/
theorem ov_some {tb : Tables} {e : Env} {s : State} {f : JFrame} {k : Class} {x : Method} {row : NativeRow} (hpc : f.pc = 0) (hk : s.vm.classes[f.method.cls]? = some k) (hin : k.name ∈ overriddenIn) (hboot : k.loader = none) (hx : k.methods[f.method.idx]? = some x) (hrow : NativeRow.find? tb.natives k.name x.name x.desc = some row) : overridden tb e s f = some row := by
  unfold overridden
  simp [hpc, hk, hboot, hx, hrow]
  intro h
  exact absurd hin h
/-- a method met by its entry -/
theorem Met.ofOv {l : Launch} {y : MethodName} {ws ws' : List Cond} {rm : Room} {Pc : Array Value → State → Prop} {Qc : Array Value → State → Outcome → State → Prop} {mc ms : Nat} {free : Addr → Prop} {cc : ByteArray} {maxL : Nat} {rt : FieldType} {row : NativeRow} (hw : ws = Cond.code y cc maxL (some rt) :: ws') (hin : y.cls ∈ overriddenIn) (hrow : ∀ p : Program, NativeRow.find? p.tables.natives y.cls y.name y.desc = some row)
    (hP : ∀ args s, Pc args s → ∃ v, (∀ (e : Env) (S : State), ∃ acts, (row.sem args).run e S = .ok (some v) S acts) ∧ (∀ (m : MethodId) (s1 : State) (e : Env) (p : Program) (r : List Frame) (meth : Method), s1.frames = .java (entryFrame m args maxL) :: r → overridden p.tables e s1 (entryFrame m args maxL) = some row → ((s1.vm.classes[m.cls]?.bind fun k => k.methods[m.idx]?) = some meth) → parseMethodDescriptor y.desc = some meth.sig → stepThread p.tables e s1 = afterNative e { method := m, args := args } r ((row.sem args).run e (s1.setFrames (.native { method := m, args := args } :: r)))) ∧ ∀ t : State, t.heap = s.heap → s.WarmedH t.vm → Qc args s (.returned (some v)) t) : Met l y ws rm Pc Qc mc ms free := by
  intro p e ha hc hk s m args below hf happ hPc _
  obtain ⟨hrun, hable, halone, hname, hhears, hinit, hroom, hpre⟩ := (Spec.appliesLoose_iff hf).mp happ
  obtain ⟨meth, c, hmeth, hcode, -, hlocals, hret, hlocks, -, hsig⟩ := Cond.code_spec hname (atoms_spec (ws := ws) hpre _ (by rw [hw]; exact List.mem_cons_self))
  obtain ⟨v, hv, hstp, hq⟩ := hP args s hPc
  have hcur := State.cur_lt_of_frames hf
  obtain ⟨k, hk', hn⟩ := className_of_methodNamed hname
  obtain ⟨hmn, hmd⟩ := name_of_methodNamed hname hmeth
  have hx' : k.methods[m.idx]? = some meth := by simpa [Vm.method?, hk'] using hmeth
  have hboot : k.loader = none := Vm.bootOf_findClass (findClass_of_methodNamed hname) hk'
  have hfull : e.platform.stackFull (s.setFrames below).me (s.setFrames below).frames c.maxLocals = false := by
    obtain ⟨-, h1, -, h2⟩ := State.hasRoom_stack hroom
    rw [hf, List.length_cons] at h1
    rw [State.localsInUse_invoking hf hmeth hcode] at h2
    have hw9 := stackUse_le_stackWeight below
    rw [State.frames_setFrames _ hcur]
    exact Platform.stackFull_eq_false (by rw [State.stackLimits_setFrames]; omega) (by rw [State.stackLimits_setFrames]; omega)
  obtain ⟨s1, hs1⟩ : ∃ z, z = s.setFrames (.java (entryFrame m args maxL) :: below) := ⟨_, rfl⟩
  have hf1 : s1.frames = .java (entryFrame m args maxL) :: below := by rw [hs1]; exact State.frames_setFrames _ hcur
  have hstep : (stepThread p.tables e s).1 = s1 := by
    rw [stepThread_invoking hf, (doInvoke_java (s := s.setFrames below) (e := e) (meth := meth) (code := c) hmeth hcode hlocks hfull).1, hs1]
    simp only [State.pushFrame, State.frames_setFrames _ hcur, State.setFrames_setFrames, hlocals, entryFrame]
  have hov : overridden p.tables e s1 (entryFrame m args maxL) = some row := ov_some (k := k) (x := meth) rfl (by rw [hs1]; exact hk') (by rw [hn]; exact hin) hboot hx' (by rw [hn, hmn, hmd]; exact hrow p)
  have hb2 : (s1.vm.classes[m.cls]?.bind fun k => k.methods[m.idx]?) = some meth := by
    rw [hs1]
    show (s.vm.classes[m.cls]?.bind fun k => k.methods[m.idx]?) = some meth
    rw [hk']
    exact hx'
  obtain ⟨acts, hr⟩ := hv e (s1.setFrames (.native { method := m, args := args } :: below))
  obtain ⟨fs, hfs⟩ := handOver_isSome (s := s) (some v) hhears
  have hcur1 : s1.cur < s1.threads.size := State.cur_lt_of_frames hf1
  have hfs2 : handOver (s1.setFrames (.native { method := m, args := args } :: below)) (some v) below = some fs := by
    rw [handOver_of_vm (u := s1.setFrames (.native { method := m, args := args } :: below)) (s := s) (by rw [hs1]; rfl)]
    exact hfs
  have hstep2 : (stepThread p.tables e s1).1 = s.setFrames fs := by
    rw [hstp m s1 e p below meth hf1 hov hb2 hsig, hr]
    show (doReturn e _ acts (some v)).1 = _
    rw [doReturn_native (f := { method := m, args := args }) (below := below) (State.frames_setFrames _ hcur1) rfl hfs2, State.setFrames_setFrames, hs1, State.setFrames_setFrames]
  have hend : Ended (s.setFrames fs) below (.returned (some v)) := by
    refine ended_of_handOver hfs hcur ?_
    rcases below with _ | ⟨y9, r⟩
    · simp only [State.hears, hmeth, Option.any_some, hret, Option.isNone_iff_eq_none] at hhears
      cases hhears
    · cases y9
      case java g => exact Or.inr ⟨_, _, rfl, trivial⟩
      case native g => exact Or.inr ⟨_, _, rfl, trivial⟩
      case proc g => exact Or.inr ⟨_, _, rfl, trivial⟩
      all_goals
        simp only [State.hears, hmeth, Option.any_some, hret, Option.isNone_iff_eq_none] at hhears
        cases hhears
  have hst1 : s1.status = .running := by rw [hs1]; exact hrun
  have hb1 : s1.curStatus? = some .runnable := by rw [hs1]; simpa using hable
  have ha1 : s1.alone = true := by rw [hs1]; simpa using halone
  have hgo : Steps p.tables e below s1 (s.setFrames fs) := by
    refine Steps.head ⟨hst1, hb1, ha1⟩ ⟨[.java (entryFrame m args maxL)], by rw [hf1]; rfl, by simp, by simp⟩ ?_
    rw [hstep2]
    exact Steps.refl _
  obtain ⟨n, hn9, hw9⟩ := Steps.head (tb := p.tables) (e := e) ⟨hrun, hable, halone⟩ ⟨[.invoking m args], hf, by simp, by simp⟩ (hstep ▸ hgo)
  refine ⟨n, .returned (some v), hw9, hn9 ▸ hrun, hn9 ▸ hend, hn9 ▸ ⟨hq _ rfl (State.WarmedH.refl s), [], ⟨⟨_, rfl⟩, State.WarmedH.refl s, ?_⟩, fun q hq9 => nomatch hq9⟩⟩
  exact State.sameButNew.mono ((State.sameButNew.refl s (Array.getElem?_eq_getElem hcur)).setFrames fs hcur) (Nat.zero_le _) (Nat.zero_le _)
section OVC
variable {l : Launch} {s0 : State} {D : va_G} {g : Nat → ClassId}
theorem k_J9_abs_294c1 (B : Base s0) {μ : mu} {x : UInt64} (hx : vf_n64 x) : Ct l yJ9_abs_294c1 wsJ9_abs_294c1 (rmOf 0 0 0 0) s0 D (tyL g) [.double x] μ 0 0 (fun v9 μ' => v9 = some (.double (x &&& 0x7fffffffffffffff)) ∧ μ' = μ) := by
  refine Met.ofOv (row := ovAbs) (rt := .double) (cc := cJ9_abs_294c1) (maxL := 2) rfl (by decide) ovAbs_row ?_
  intro args s ⟨ha, hW, hK, hE⟩
  subst ha
  refine ⟨.double (x &&& 0x7fffffffffffffff), fun e S => ovAbs_run hx e S, ?_, fun t ht hw => ⟨⟨_, μ, rfl, ⟨rfl, rfl⟩, by rw [ht]; exact hW⟩, ⟨by rw [ht]; exact Nat.le_refl _, fun q _ _ => by rw [ht]⟩⟩⟩
  intro m s1 e p r meth hf hov hb hsig
  have hp : meth.sig.parameters.length = 1 := by
    have h2 : parseMethodDescriptor yJ9_abs_294c1.desc = some { parameters := [.double], returnType := some .double } := by decide +kernel
    rw [h2] at hsig
    rw [← Option.some.inj hsig]
    rfl
  have htake : ∀ n : Nat, List.take (1 + n) [Value.double x] = [Value.double x] := fun n => List.take_of_length_le (Nat.le_add_right 1 n)
  unfold stepThread
  simp only [hf, hov]
  simp [entryFrame, argsToLocals, Value.category, argCount, hb, hp, htake]
theorem k_J9_min_e70c8 (B : Base s0) {μ : mu} {x y : UInt32} (hx : FP.fIsNaN x = false) (hy : FP.fIsNaN y = false) : Ct l yJ9_min_e70c8 wsJ9_min_e70c8 (rmOf 0 0 0 0) s0 D (tyL g) [.float x, .float y] μ 0 0 (fun v9 μ' => v9 = some (.float (mn32 x y)) ∧ μ' = μ) := by
  refine Met.ofOv (row := ovMin) (rt := .float) (cc := cJ9_min_e70c8) (maxL := 2) rfl (by decide) ovMin_row ?_
  intro args s ⟨ha, hW, hK, hE⟩
  subst ha
  refine ⟨.float (mn32 x y), fun e S => ovMin_run hx hy e S, ?_, fun t ht hw => ⟨⟨_, μ, rfl, ⟨rfl, rfl⟩, by rw [ht]; exact hW⟩, ⟨by rw [ht]; exact Nat.le_refl _, fun q _ _ => by rw [ht]⟩⟩⟩
  intro m s1 e p r meth hf hov hb hsig
  have hp : meth.sig.parameters.length = 2 := by
    have h2 : parseMethodDescriptor yJ9_min_e70c8.desc = some { parameters := [.float, .float], returnType := some .float } := by decide +kernel
    rw [h2] at hsig
    rw [← Option.some.inj hsig]
    rfl
  have htake : ∀ n : Nat, List.take (2 + n) [Value.float x, Value.float y] = [Value.float x, Value.float y] := fun n => List.take_of_length_le (Nat.le_add_right 2 n)
  unfold stepThread
  simp only [hf, hov]
  simp [entryFrame, argsToLocals, Value.category, argCount, hb, hp, htake]
theorem mn_ok {c : UInt32} (h : CrOk c) : FP.fIsNaN (FP.fadd c f256) = false ∧ mn32 f125 (FP.fadd c f256) = crNx c := by
  obtain ⟨k, hk, rfl⟩ := h
  have key : ∀ k, k < 33 → FP.fIsNaN (FP.fadd (crk k) f256) = false ∧ mn32 f125 (FP.fadd (crk k) f256) = crNx (crk k) := by
    unfold crNx
    decide +kernel
  exact key k hk
end OVC
