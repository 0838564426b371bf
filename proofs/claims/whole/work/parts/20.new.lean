/-! ===== new cells ===== -/
theorem nn_ne {μ : mu} {a b : Nat} {e : va_E} (h : μ a = none) (hb : μ b = some e) : b ≠ a := fun q => by
  rw [q, h] at hb
  cases hb
theorem Base.ao1 {s0 : State} (B : Base s0) : va_AO "ArrowField$Archer" s0 := B.2.2.2.1.1
theorem Base.ao2 {s0 : State} (B : Base s0) : va_AO "ArrowField$Quiver" s0 := B.2.2.2.1.2.1
theorem Base.ao3 {s0 : State} (B : Base s0) : va_AO "java/lang/Object" s0 := B.2.2.2.1.2.2
theorem va_AO.warm {C : String} {s0 s : State} (hW : s0.WarmedH s.vm) (h : va_AO C s0) : va_AO C s := va_AO.moved (u := s0) (U := s) hW.alike h
section NEW
variable {p : Program} {l : Launch} {e : Env} {R : Room} {s : State} {m : MethodId} {args : Array Value} {below : List Frame} {meth : Method} {c : Code} {Q : State → Prop}
variable {z0 : Nat} {D : va_G} {nL : Nat} {μ : mu} {cells slots : Nat} {pc : Nat} {lv : List (Nat × Value)} {st : List Value} {cc : ByteArray} {own : String} {Ts : List Cond} {ret : Option FieldType}
theorem aw_newI {g : Nat → ClassId} (C : Cx p s m args meth c cc own nL Ts ret z0 D (tyL g)) {N : Nat} {n : Int32} (harr : Cond.arrayClass (newarray.typeOf .int) ∈ Ts) (hn : ¬ n < 0) (hN : n.toNatClampNeg = N) (hbytes : N * componentBytes (newarray.typeOf .int) ≤ 536870912) (hcells : cells + 1 ≤ R.cells) (hslots : slots + N ≤ R.slots) (hdg : decode cc pc = .ok (.newarray .int, 2))
    (kk : ∀ a : Nat, z0 ≤ a → μ a = none → Aw p l e R s m args below meth c Q z0 D nL (mp μ a (eI g N (fun _ => 0))) (cells + 1) (slots + N) (pc + 2) lv (.ref a :: st)) : Aw p l e R s m args below meth c Q z0 D nL μ cells slots pc lv (.int n :: st) :=
  aw_newa C (t0 := 0) (cA := g 0) harr rfl rfl (fun _ => Iff.rfl) rfl hn hN hbytes hcells hslots hdg kk
theorem aw_newD {g : Nat → ClassId} (C : Cx p s m args meth c cc own nL Ts ret z0 D (tyL g)) {N : Nat} {n : Int32} (harr : Cond.arrayClass (newarray.typeOf .double) ∈ Ts) (hn : ¬ n < 0) (hN : n.toNatClampNeg = N) (hbytes : N * componentBytes (newarray.typeOf .double) ≤ 536870912) (hcells : cells + 1 ≤ R.cells) (hslots : slots + N ≤ R.slots) (hdg : decode cc pc = .ok (.newarray .double, 2))
    (kk : ∀ a : Nat, z0 ≤ a → μ a = none → Aw p l e R s m args below meth c Q z0 D nL (mp μ a (eD g N (fun _ => 0))) (cells + 1) (slots + N) (pc + 2) lv (.ref a :: st)) : Aw p l e R s m args below meth c Q z0 D nL μ cells slots pc lv (.int n :: st) :=
  aw_newa C (t0 := 1) (cA := g 1) harr rfl rfl (fun _ => Iff.rfl) rfl hn hN hbytes hcells hslots hdg kk
theorem aw_newJ {g : Nat → ClassId} (C : Cx p s m args meth c cc own nL Ts ret z0 D (tyL g)) {N : Nat} {n : Int32} (harr : Cond.arrayClass (newarray.typeOf .long) ∈ Ts) (hn : ¬ n < 0) (hN : n.toNatClampNeg = N) (hbytes : N * componentBytes (newarray.typeOf .long) ≤ 536870912) (hcells : cells + 1 ≤ R.cells) (hslots : slots + N ≤ R.slots) (hdg : decode cc pc = .ok (.newarray .long, 2))
    (kk : ∀ a : Nat, z0 ≤ a → μ a = none → Aw p l e R s m args below meth c Q z0 D nL (mp μ a (eJ g N (fun _ => 0))) (cells + 1) (slots + N) (pc + 2) lv (.ref a :: st)) : Aw p l e R s m args below meth c Q z0 D nL μ cells slots pc lv (.int n :: st) :=
  aw_newa C (t0 := 2) (cA := g 2) harr rfl rfl (fun _ => Iff.rfl) rfl hn hN hbytes hcells hslots hdg kk
end NEW
theorem ntX0 : (∀ k, k < 12 → parseFieldDescriptor (TX0 k).2.2.1 = some (tyX0 k)) ∧ ∀ k, k < 12 → defaultValue (tyX0 k) = vp_V [.int 0, .int 0, .int 0, .int 0, .float 0, .int 0, .int 0, .int 0, .int 0, .int 0, .int 0, .int 0] k := by
  refine ⟨fun k hk => ?_, fun k hk => ?_⟩
  · rcases k with _ | k
    · decide +kernel
    rcases k with _ | k
    · decide +kernel
    rcases k with _ | k
    · decide +kernel
    rcases k with _ | k
    · decide +kernel
    rcases k with _ | k
    · decide +kernel
    rcases k with _ | k
    · decide +kernel
    rcases k with _ | k
    · decide +kernel
    rcases k with _ | k
    · decide +kernel
    rcases k with _ | k
    · decide +kernel
    rcases k with _ | k
    · decide +kernel
    rcases k with _ | k
    · decide +kernel
    rcases k with _ | k
    · decide +kernel
    omega
  · rcases k with _ | k
    · rfl
    rcases k with _ | k
    · rfl
    rcases k with _ | k
    · rfl
    rcases k with _ | k
    · rfl
    rcases k with _ | k
    · rfl
    rcases k with _ | k
    · rfl
    rcases k with _ | k
    · rfl
    rcases k with _ | k
    · rfl
    rcases k with _ | k
    · rfl
    rcases k with _ | k
    · rfl
    rcases k with _ | k
    · rfl
    rcases k with _ | k
    · rfl
    omega
theorem ntX1 : (∀ k, k < 2 → parseFieldDescriptor (TX1 k).2.2.1 = some (tyX1 k)) ∧ ∀ k, k < 2 → defaultValue (tyX1 k) = vp_V [.double 0, .double 0] k := by
  refine ⟨fun k hk => ?_, fun k hk => ?_⟩
  · rcases k with _ | k
    · decide +kernel
    rcases k with _ | k
    · decide +kernel
    omega
  · rcases k with _ | k
    · rfl
    rcases k with _ | k
    · rfl
    omega
theorem ntX2 : (∀ k, k < 10 → parseFieldDescriptor (TX2 k).2.2.1 = some (tyX2 k)) ∧ ∀ k, k < 10 → defaultValue (tyX2 k) = vp_V [.int 0, .int 0, .int 0, .int 0, .int 0, .int 0, .int 0, .int 0, .int 0, .double 0] k := by
  refine ⟨fun k hk => ?_, fun k hk => ?_⟩
  · rcases k with _ | k
    · decide +kernel
    rcases k with _ | k
    · decide +kernel
    rcases k with _ | k
    · decide +kernel
    rcases k with _ | k
    · decide +kernel
    rcases k with _ | k
    · decide +kernel
    rcases k with _ | k
    · decide +kernel
    rcases k with _ | k
    · decide +kernel
    rcases k with _ | k
    · decide +kernel
    rcases k with _ | k
    · decide +kernel
    rcases k with _ | k
    · decide +kernel
    omega
  · rcases k with _ | k
    · rfl
    rcases k with _ | k
    · rfl
    rcases k with _ | k
    · rfl
    rcases k with _ | k
    · rfl
    rcases k with _ | k
    · rfl
    rcases k with _ | k
    · rfl
    rcases k with _ | k
    · rfl
    rcases k with _ | k
    · rfl
    rcases k with _ | k
    · rfl
    rcases k with _ | k
    · rfl
    omega
theorem ntX3 : (∀ k, k < 5 → parseFieldDescriptor (TX3 k).2.2.1 = some (tyX3 k)) ∧ ∀ k, k < 5 → defaultValue (tyX3 k) = vp_V [.int 0, .int 0, .null, .null, .null] k := by
  refine ⟨fun k hk => ?_, fun k hk => ?_⟩
  · rcases k with _ | k
    · decide +kernel
    rcases k with _ | k
    · decide +kernel
    rcases k with _ | k
    · decide +kernel
    rcases k with _ | k
    · decide +kernel
    rcases k with _ | k
    · decide +kernel
    omega
  · rcases k with _ | k
    · rfl
    rcases k with _ | k
    · rfl
    rcases k with _ | k
    · rfl
    rcases k with _ | k
    · rfl
    rcases k with _ | k
    · rfl
    omega
theorem ntX5 : (∀ k, k < 12 → parseFieldDescriptor (TX5 k).2.2.1 = some (tyX5 k)) ∧ ∀ k, k < 12 → defaultValue (tyX5 k) = vp_V [.int 0, .int 0, .int 0, .int 0, .float 0, .int 0, .int 0, .int 0, .int 0, .int 0, .int 0, .int 0] k := by
  refine ⟨fun k hk => ?_, fun k hk => ?_⟩
  · rcases k with _ | k
    · decide +kernel
    rcases k with _ | k
    · decide +kernel
    rcases k with _ | k
    · decide +kernel
    rcases k with _ | k
    · decide +kernel
    rcases k with _ | k
    · decide +kernel
    rcases k with _ | k
    · decide +kernel
    rcases k with _ | k
    · decide +kernel
    rcases k with _ | k
    · decide +kernel
    rcases k with _ | k
    · decide +kernel
    rcases k with _ | k
    · decide +kernel
    rcases k with _ | k
    · decide +kernel
    rcases k with _ | k
    · decide +kernel
    omega
  · rcases k with _ | k
    · rfl
    rcases k with _ | k
    · rfl
    rcases k with _ | k
    · rfl
    rcases k with _ | k
    · rfl
    rcases k with _ | k
    · rfl
    rcases k with _ | k
    · rfl
    rcases k with _ | k
    · rfl
    rcases k with _ | k
    · rfl
    rcases k with _ | k
    · rfl
    rcases k with _ | k
    · rfl
    rcases k with _ | k
    · rfl
    rcases k with _ | k
    · rfl
    omega
theorem ntX6 : (∀ k, k < 5 → parseFieldDescriptor (TX6 k).2.2.1 = some (tyX6 k)) ∧ ∀ k, k < 5 → defaultValue (tyX6 k) = vp_V [.int 0, .int 0, .null, .null, .null] k := by
  refine ⟨fun k hk => ?_, fun k hk => ?_⟩
  · rcases k with _ | k
    · decide +kernel
    rcases k with _ | k
    · decide +kernel
    rcases k with _ | k
    · decide +kernel
    rcases k with _ | k
    · decide +kernel
    rcases k with _ | k
    · decide +kernel
    omega
  · rcases k with _ | k
    · rfl
    rcases k with _ | k
    · rfl
    rcases k with _ | k
    · rfl
    rcases k with _ | k
    · rfl
    rcases k with _ | k
    · rfl
    omega
theorem ntJx4a65c : (∀ k, k < 3 → parseFieldDescriptor (TJx4a65c k).2.2.1 = some (tyJx4a65c k)) ∧ ∀ k, k < 3 → defaultValue (tyJx4a65c k) = vp_V [.int 0, .null, .int 0] k := by
  refine ⟨fun k hk => ?_, fun k hk => ?_⟩
  · rcases k with _ | k
    · decide +kernel
    rcases k with _ | k
    · decide +kernel
    rcases k with _ | k
    · decide +kernel
    omega
  · rcases k with _ | k
    · rfl
    rcases k with _ | k
    · rfl
    rcases k with _ | k
    · rfl
    omega
theorem ntJx35411 : (∀ k, k < 4 → parseFieldDescriptor (TJx35411 k).2.2.1 = some (tyJx35411 k)) ∧ ∀ k, k < 4 → defaultValue (tyJx35411 k) = vp_V [.int 0, .int 0, .int 0, .null] k := by
  refine ⟨fun k hk => ?_, fun k hk => ?_⟩
  · rcases k with _ | k
    · decide +kernel
    rcases k with _ | k
    · decide +kernel
    rcases k with _ | k
    · decide +kernel
    rcases k with _ | k
    · decide +kernel
    omega
  · rcases k with _ | k
    · rfl
    rcases k with _ | k
    · rfl
    rcases k with _ | k
    · rfl
    rcases k with _ | k
    · rfl
    omega
section KR
variable {l : Launch} {s0 : State} {D : va_G} {g : Nat → ClassId}
abbrev dA : Nat → Int32 := fun k => if k = 5 then -1 else 0
/-- all but a stands as it stood -/
def Kp (a : Nat) (μ μ' : mu) : Prop := ∀ (b : Nat) (e : va_E), μ b = some e → b ≠ a → μ' b = some e
theorem Kp.rf {a : Nat} {μ : mu} : Kp a μ μ := fun _ _ h _ => h
theorem Kp.new {a o : Nat} {μ μ' : mu} {e : va_E} (h : Kp a μ μ') (ho : μ' o = none) : Kp a μ (mp μ' o e) := fun b x hb hn => mp_k (h b x hb hn) (nn_ne ho (h b x hb hn))
theorem Kp.put {a : Nat} {μ μ' : mu} {e : va_E} (h : Kp a μ μ') : Kp a μ (mp μ' a e) := fun b x hb hn => mp_k (h b x hb hn) hn
/-- what is fresh behind was fresh ahead -/
theorem Kp.fr {a o : Nat} {μ μ' : mu} {x : va_E} (h : Kp a μ μ') (ha : μ' a = some x) (ho : μ' o = none) : μ o = none := by
  cases hq : μ o with
  | none => rfl
  | some e =>
    exfalso
    by_cases hoa : o = a
    · rw [hoa, ha] at ho; cases ho
    · rw [h o e hq hoa] at ho; cases ho
set_option maxRecDepth 100000 in
set_option maxHeartbeats 4000000 in
theorem k_X0_init (B : Base s0) {μ : mu} {a : Nat} (h1 : μ a = some (eAr (fun _ => 0) 0)) : Ct l yX0_init wsX0_init (rmOf 1 0 0 40) s0 D (tyL g) [.ref a] μ 0 0 (fun v μ' => v = none ∧ μ' = mp μ a (eAr dA 0)) := by
  refine Ct.of (cc := cX0_init) (own := RX0) (maxL := 1) (ret := none) (by decide) rfl rfl (Nat.le_of_ble_eq_true rfl) ?_
  intro p e s m args below meth c Q C hE hnm hQe
  have in_RX0 : ∀ w ∈ u_ws RX0 TX0 12, w ∈ wsX0_init := by decide +kernel
  have f9 : FL wsX0_init RX0 9 2 "ArrowField$Archer" RX0 TX0 12 5 := ⟨in_RX0, rfl, by decide, by decide +kernel, Or.inl rfl⟩
  refine aw_aload_n C dX0_init_0 rfl ?_
  refine aw_objInit C (index := 3) (by decide +kernel) (by decide +kernel) (by decide +kernel) (by decide) (by decide) dX0_init_1 ?_
  refine aw_aload_n C dX0_init_4 rfl ?_
  refine aw_iconst C (v := (-1)) (by decide) dX0_init_5 ?_
  refine aw_putE C f9 ftX0 (ty := .int) (by decide +kernel) rfl rfl h1 (Nat.le_of_ble_eq_true rfl) (fs' := [.int 0, .int 0, .int 0, .int 0, .float 0, .int (-1), .int 0, .int 0, .int 0, .int 0, .int 0, .int 0]) rfl dX0_init_6 ?_
  refine aw_vret C hQe ?_ (by omega) (by omega) dX0_init_9
  exact ⟨rfl, rfl⟩
set_option maxRecDepth 100000 in
set_option maxHeartbeats 4000000 in
theorem k_X5_init (B : Base s0) {μ : mu} {a : Nat} (h1 : μ a = some (eXa (fun _ => 0) 0)) : Ct l yX5_init wsX5_init (rmOf 1 0 0 40) s0 D (tyL g) [.ref a] μ 0 0 (fun v μ' => v = none ∧ μ' = mp μ a (eXa dA 0)) := by
  refine Ct.of (cc := cX5_init) (own := RX5) (maxL := 1) (ret := none) (by decide) rfl rfl (Nat.le_of_ble_eq_true rfl) ?_
  intro p e s m args below meth c Q C hE hnm hQe
  have in_RX5 : ∀ w ∈ u_ws RX5 TX5 12, w ∈ wsX5_init := by decide +kernel
  have f9 : FL wsX5_init RX5 9 7 "ArrowFieldModel$Archer" RX5 TX5 12 5 := ⟨in_RX5, rfl, by decide, by decide +kernel, Or.inl rfl⟩
  refine aw_aload_n C dX5_init_0 rfl ?_
  refine aw_objInit C (index := 3) (by decide +kernel) (by decide +kernel) (by decide +kernel) (by decide) (by decide) dX5_init_1 ?_
  refine aw_aload_n C dX5_init_4 rfl ?_
  refine aw_iconst C (v := (-1)) (by decide) dX5_init_5 ?_
  refine aw_putE C f9 ftX5 (ty := .int) (by decide +kernel) rfl rfl h1 (Nat.le_of_ble_eq_true rfl) (fs' := [.int 0, .int 0, .int 0, .int 0, .float 0, .int (-1), .int 0, .int 0, .int 0, .int 0, .int 0, .int 0]) rfl dX5_init_6 ?_
  refine aw_vret C hQe ?_ (by omega) (by omega) dX5_init_9
  exact ⟨rfl, rfl⟩
set_option maxRecDepth 100000 in
set_option maxHeartbeats 4000000 in
theorem k_X1_init (B : Base s0) {μ : mu} {a : Nat} (h1 : μ a = some (eFl 0 0)) : Ct l yX1_init wsX1_init (rmOf 1 0 0 40) s0 D (tyL g) [.ref a] μ 0 0 (fun v μ' => v = none ∧ μ' = μ) := by
  refine Ct.of (cc := cX1_init) (own := RX1) (maxL := 1) (ret := none) (by decide) rfl rfl (Nat.le_of_ble_eq_true rfl) ?_
  intro p e s m args below meth c Q C hE hnm hQe
  refine aw_aload_n C dX1_init_0 rfl ?_
  refine aw_objInit C (index := 3) (by decide +kernel) (by decide +kernel) (by decide +kernel) (by decide) (by decide) dX1_init_1 ?_
  refine aw_vret C hQe ?_ (by omega) (by omega) dX1_init_4
  exact ⟨rfl, rfl⟩
set_option maxRecDepth 100000 in
set_option maxHeartbeats 4000000 in
theorem k_X2_init (B : Base s0) {μ : mu} {a : Nat} (h1 : μ a = some (eMt (fun _ => 0) 0)) : Ct l yX2_init wsX2_init (rmOf 1 0 0 40) s0 D (tyL g) [.ref a] μ 0 0 (fun v μ' => v = none ∧ μ' = μ) := by
  refine Ct.of (cc := cX2_init) (own := RX2) (maxL := 1) (ret := none) (by decide) rfl rfl (Nat.le_of_ble_eq_true rfl) ?_
  intro p e s m args below meth c Q C hE hnm hQe
  refine aw_aload_n C dX2_init_0 rfl ?_
  refine aw_objInit C (index := 3) (by decide +kernel) (by decide +kernel) (by decide +kernel) (by decide) (by decide) dX2_init_1 ?_
  refine aw_vret C hQe ?_ (by omega) (by omega) dX2_init_4
  exact ⟨rfl, rfl⟩
set_option maxRecDepth 100000 in
set_option maxHeartbeats 4000000 in
theorem k_X3_init (B : Base s0) {μ : mu} {a : Nat} (h1 : μ a = some (.inr (5, [.int 0, .int 0, .null, .null, .null]))) : Ct l yX3_init wsX3_init (rmOf 1 3 36 40) s0 D (tyL g) [.ref a] μ 3 36 (fun v μ' => v = none ∧ Kp a μ μ' ∧ ∃ st hh vv, μ st = none ∧ μ hh = none ∧ μ vv = none ∧ hh ≠ vv ∧ μ' a = some (eQu (fun _ => 0) st hh vv) ∧ μ' st = some (eI g 12 (fun _ => 0)) ∧ μ' hh = some (eD g 12 (fun _ => 0)) ∧ μ' vv = some (eD g 12 (fun _ => 0))) := by
  refine Ct.of (cc := cX3_init) (own := RX3) (maxL := 1) (ret := none) (by decide) rfl rfl (Nat.le_of_ble_eq_true rfl) ?_
  intro p e s m args below meth c Q C hE hnm hQe
  have in_RX3 : ∀ w ∈ u_ws RX3 TX3 5, w ∈ wsX3_init := by decide +kernel
  have f9 : FL wsX3_init RX3 9 5 "ArrowField$Quiver" RX3 TX3 5 2 := ⟨in_RX3, rfl, by decide, by decide +kernel, Or.inl rfl⟩
  have f15 : FL wsX3_init RX3 15 5 "ArrowField$Quiver" RX3 TX3 5 3 := ⟨in_RX3, rfl, by decide, by decide +kernel, Or.inl rfl⟩
  have f19 : FL wsX3_init RX3 19 5 "ArrowField$Quiver" RX3 TX3 5 4 := ⟨in_RX3, rfl, by decide, by decide +kernel, Or.inl rfl⟩
  refine aw_aload_n C dX3_init_0 rfl ?_
  refine aw_objInit C (index := 3) (by decide +kernel) (by decide +kernel) (by decide +kernel) (by decide) (by decide) dX3_init_1 ?_
  refine aw_aload_n C dX3_init_4 rfl ?_
  refine aw_bipush C (v := 12) (by decide) dX3_init_5 ?_
  refine aw_newI C (N := 12) (by decide +kernel) (by decide) (by decide) (by decide) (by decide) (by decide) dX3_init_7 (fun o1 zo1 fo1 => ?_)
  refine aw_putFE C f9 ftX3 (ty := .array .int) (by decide +kernel) hnm rfl rfl (mp_k h1 (nn_ne fo1 h1)) (Nat.le_of_ble_eq_true rfl) (fs' := [.int 0, .int 0, .ref o1, .null, .null]) rfl dX3_init_9 ?_
  refine aw_aload_n C dX3_init_12 rfl ?_
  refine aw_bipush C (v := 12) (by decide) dX3_init_13 ?_
  refine aw_newD C (N := 12) (by decide +kernel) (by decide) (by decide) (by decide) (by decide) (by decide) dX3_init_15 (fun o2 zo2 fo2 => ?_)
  refine aw_putFE C f15 ftX3 (ty := .array .double) (by decide +kernel) hnm rfl rfl (mp_k mp_s (nn_ne fo2 mp_s)) (Nat.le_of_ble_eq_true rfl) (fs' := [.int 0, .int 0, .ref o1, .ref o2, .null]) rfl dX3_init_17 ?_
  refine aw_aload_n C dX3_init_20 rfl ?_
  refine aw_bipush C (v := 12) (by decide) dX3_init_21 ?_
  refine aw_newD C (N := 12) (by decide +kernel) (by decide) (by decide) (by decide) (by decide) (by decide) dX3_init_23 (fun o3 zo3 fo3 => ?_)
  refine aw_putFE C f19 ftX3 (ty := .array .double) (by decide +kernel) hnm rfl rfl (mp_k mp_s (nn_ne fo3 mp_s)) (Nat.le_of_ble_eq_true rfl) (fs' := [.int 0, .int 0, .ref o1, .ref o2, .ref o3]) rfl dX3_init_25 ?_
  refine aw_vret C hQe ?_ (by omega) (by omega) dX3_init_28
  exact ⟨rfl, ((((((Kp.rf.new fo1).put).new fo2).put).new fo3).put), o1, o2, o3, fo1, ((((Kp.rf.new fo1).put)).fr mp_s fo2), ((((((Kp.rf.new fo1).put).new fo2).put)).fr mp_s fo3), (nn_ne fo3 (mp_k mp_s (nn_ne fo2 mp_s).symm)), mp_s, (mp_k (mp_k (mp_k (mp_k (mp_k mp_s (nn_ne fo1 h1).symm) (nn_ne fo2 (mp_k mp_s (nn_ne fo1 h1).symm))) (nn_ne fo1 h1).symm) (nn_ne fo3 (mp_k (mp_k (mp_k mp_s (nn_ne fo1 h1).symm) (nn_ne fo2 (mp_k mp_s (nn_ne fo1 h1).symm))) (nn_ne fo1 h1).symm))) (nn_ne fo1 h1).symm), (mp_k (mp_k (mp_k mp_s (nn_ne fo2 mp_s).symm) (nn_ne fo3 (mp_k mp_s (nn_ne fo2 mp_s).symm))) (nn_ne fo2 mp_s).symm), (mp_k mp_s (nn_ne fo3 mp_s).symm)⟩
set_option maxRecDepth 100000 in
set_option maxHeartbeats 4000000 in
theorem k_X6_init (B : Base s0) {μ : mu} {a : Nat} (h1 : μ a = some (.inr (8, [.int 0, .int 0, .null, .null, .null]))) : Ct l yX6_init wsX6_init (rmOf 1 3 36 40) s0 D (tyL g) [.ref a] μ 3 36 (fun v μ' => v = none ∧ Kp a μ μ' ∧ ∃ st hh vv, μ st = none ∧ μ hh = none ∧ μ vv = none ∧ hh ≠ vv ∧ μ' a = some (eXq (fun _ => 0) st hh vv) ∧ μ' st = some (eI g 12 (fun _ => 0)) ∧ μ' hh = some (eD g 12 (fun _ => 0)) ∧ μ' vv = some (eD g 12 (fun _ => 0))) := by
  refine Ct.of (cc := cX6_init) (own := RX6) (maxL := 1) (ret := none) (by decide) rfl rfl (Nat.le_of_ble_eq_true rfl) ?_
  intro p e s m args below meth c Q C hE hnm hQe
  have in_RX6 : ∀ w ∈ u_ws RX6 TX6 5, w ∈ wsX6_init := by decide +kernel
  have f9 : FL wsX6_init RX6 9 8 "ArrowFieldModel$Quiver" RX6 TX6 5 2 := ⟨in_RX6, rfl, by decide, by decide +kernel, Or.inl rfl⟩
  have f15 : FL wsX6_init RX6 15 8 "ArrowFieldModel$Quiver" RX6 TX6 5 3 := ⟨in_RX6, rfl, by decide, by decide +kernel, Or.inl rfl⟩
  have f19 : FL wsX6_init RX6 19 8 "ArrowFieldModel$Quiver" RX6 TX6 5 4 := ⟨in_RX6, rfl, by decide, by decide +kernel, Or.inl rfl⟩
  refine aw_aload_n C dX6_init_0 rfl ?_
  refine aw_objInit C (index := 3) (by decide +kernel) (by decide +kernel) (by decide +kernel) (by decide) (by decide) dX6_init_1 ?_
  refine aw_aload_n C dX6_init_4 rfl ?_
  refine aw_bipush C (v := 12) (by decide) dX6_init_5 ?_
  refine aw_newI C (N := 12) (by decide +kernel) (by decide) (by decide) (by decide) (by decide) (by decide) dX6_init_7 (fun o1 zo1 fo1 => ?_)
  refine aw_putFE C f9 ftX6 (ty := .array .int) (by decide +kernel) hnm rfl rfl (mp_k h1 (nn_ne fo1 h1)) (Nat.le_of_ble_eq_true rfl) (fs' := [.int 0, .int 0, .ref o1, .null, .null]) rfl dX6_init_9 ?_
  refine aw_aload_n C dX6_init_12 rfl ?_
  refine aw_bipush C (v := 12) (by decide) dX6_init_13 ?_
  refine aw_newD C (N := 12) (by decide +kernel) (by decide) (by decide) (by decide) (by decide) (by decide) dX6_init_15 (fun o2 zo2 fo2 => ?_)
  refine aw_putFE C f15 ftX6 (ty := .array .double) (by decide +kernel) hnm rfl rfl (mp_k mp_s (nn_ne fo2 mp_s)) (Nat.le_of_ble_eq_true rfl) (fs' := [.int 0, .int 0, .ref o1, .ref o2, .null]) rfl dX6_init_17 ?_
  refine aw_aload_n C dX6_init_20 rfl ?_
  refine aw_bipush C (v := 12) (by decide) dX6_init_21 ?_
  refine aw_newD C (N := 12) (by decide +kernel) (by decide) (by decide) (by decide) (by decide) (by decide) dX6_init_23 (fun o3 zo3 fo3 => ?_)
  refine aw_putFE C f19 ftX6 (ty := .array .double) (by decide +kernel) hnm rfl rfl (mp_k mp_s (nn_ne fo3 mp_s)) (Nat.le_of_ble_eq_true rfl) (fs' := [.int 0, .int 0, .ref o1, .ref o2, .ref o3]) rfl dX6_init_25 ?_
  refine aw_vret C hQe ?_ (by omega) (by omega) dX6_init_28
  exact ⟨rfl, ((((((Kp.rf.new fo1).put).new fo2).put).new fo3).put), o1, o2, o3, fo1, ((((Kp.rf.new fo1).put)).fr mp_s fo2), ((((((Kp.rf.new fo1).put).new fo2).put)).fr mp_s fo3), (nn_ne fo3 (mp_k mp_s (nn_ne fo2 mp_s).symm)), mp_s, (mp_k (mp_k (mp_k (mp_k (mp_k mp_s (nn_ne fo1 h1).symm) (nn_ne fo2 (mp_k mp_s (nn_ne fo1 h1).symm))) (nn_ne fo1 h1).symm) (nn_ne fo3 (mp_k (mp_k (mp_k mp_s (nn_ne fo1 h1).symm) (nn_ne fo2 (mp_k mp_s (nn_ne fo1 h1).symm))) (nn_ne fo1 h1).symm))) (nn_ne fo1 h1).symm), (mp_k (mp_k (mp_k mp_s (nn_ne fo2 mp_s).symm) (nn_ne fo3 (mp_k mp_s (nn_ne fo2 mp_s).symm))) (nn_ne fo2 mp_s).symm), (mp_k mp_s (nn_ne fo3 mp_s).symm)⟩
end KR
