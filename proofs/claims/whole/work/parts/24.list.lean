/-! ===== ArrayList, its iterator, Math ===== -/
/-- the empty list's own array -/
def BL (s0 : State) (_g : Nat → ClassId) (e0 : Nat) : Prop := va_Z "java/util/ArrayList" "DEFAULTCAPACITY_EMPTY_ELEMENTDATA" "[Ljava/lang/Object;" (.ref e0) (fun q => s0.heap.size ≤ q) s0 s0.heap ∧ ∃ cell : Cell, s0.heap[e0]? = some cell ∧ s0.isArrayOf cell (.object "java/lang/Object") ∧ cell.slots.size = 0
theorem Base.fhasNext {s0 : State} (B : Base s0) : va_Fw RJx35411 ⟨"java/util/Iterator", "hasNext", "()Z"⟩ yJx35411_hasNext_aae02 s0 := B.2.2.2.2.1
theorem Base.fnext {s0 : State} (B : Base s0) : va_Fw RJx35411 ⟨"java/util/Iterator", "next", "()Ljava/lang/Object;"⟩ yJx35411_next_0502b s0 := B.2.2.2.2.2
section ROWS2
variable {p : Program} {l : Launch} {e : Env} {R : Room} {s s0 : State} {m : MethodId} {args : Array Value} {below : List Frame} {meth : Method} {c : Code} {Q : State → Prop}
variable {D : va_G} {nL : Nat} {μ : mu} {cells slots : Nat} {pc : Nat} {lv : List (Nat × Value)} {st : List Value} {cc : ByteArray} {own : String} {Ts : List Cond} {ret : Option FieldType} {tys : List (ClassId × FieldType)} {g : Nat → ClassId}
theorem aw_gets (C : Cx p s m args meth c cc own nL Ts ret s0.heap.size D tys) (hE : EN s0 s) {Cn n d : String} {v : Value} {index : Nat} (hZ : va_Z Cn n d v (fun q => s0.heap.size ≤ q) s0 s0.heap) (hl : Cond.fieldLink own index Cn n d ∈ Ts) (hdg : decode cc pc = .ok (.getstatic index, 3))
    (kk : Aw p l e R s m args below meth c Q s0.heap.size D nL μ cells slots (pc + 3) lv (v :: st)) : Aw p l e R s m args below meth c Q s0.heap.size D nL μ cells slots pc lv st := fun H locs ls h1 h2 h3 =>
  va_gets C.1 C.2.1 (va_Z.moved hE.1.alike (hZ.kept (fun a ha _ => hE.2.2 a ha))) h2 C.2.2.2.1 (C.2.2.2.2.1 _ hl) (fun _ h => h) hdg (kk H locs ls h1 h2 h3)
theorem aw_alenO (C : Cx p s m args meth c cc own nL Ts ret s0.heap.size D (tyL g)) (hE : EN s0 s) {a : Nat} {v : Int32} (hO : ∃ cell : Cell, s0.heap[a]? = some cell ∧ s0.isArrayOf cell (.object "java/lang/Object") ∧ cell.slots.size = 0) (hv : (0 : Int32) = v) (hdg : decode cc pc = .ok (.arraylength, 1))
    (kk : Aw p l e R s m args below meth c Q s0.heap.size D nL μ cells slots (pc + 1) lv (.int v :: st)) : Aw p l e R s m args below meth c Q s0.heap.size D nL μ cells slots pc lv (.ref a :: st) := fun H locs ls h1 h2 h3 => by
  obtain ⟨cell, hc, hr, hz⟩ := hO
  have hlt : a < s0.heap.size := (Array.getElem?_eq_some_iff.mp hc).1
  have h9 : H[a]? = some cell := by
    rw [h2.2.1 a (Nat.lt_of_lt_of_le hlt hE.2.1) (Nat.not_le.mpr hlt), hE.2.2 a hlt]
    exact hc
  subst hv
  exact W.alen (n := 0) C.1 C.2.1 h9 (State.isArrayOf_alike hE.1.alike hr) (by rw [hz]; rfl) rfl rfl hdg (kk H locs ls h1 h2 h3)
theorem aw_acmp_eq (C : Cx p s m args meth c cc own nL Ts ret s0.heap.size D tys) {x y : Nat} {off : Int} {tgt : Nat} (hdg : decode cc pc = .ok (.if_acmp .eq off, 3)) (ht : (pc : Int) + off = (tgt : Int)) (kt : x = y → Aw p l e R s m args below meth c Q s0.heap.size D nL μ cells slots tgt lv st) (kf : ¬ x = y → Aw p l e R s m args below meth c Q s0.heap.size D nL μ cells slots (pc + 3) lv st) : Aw p l e R s m args below meth c Q s0.heap.size D nL μ cells slots pc lv (.ref y :: .ref x :: st) := fun H locs ls h1 h2 h3 =>
  lv_acmp_eq (rx := some x) (ry := some y) C.1 C.2.1 hdg ht (fun q => kt (Option.some.inj q) H locs ls h1 h2 h3) (fun q => kf (fun z => q (by rw [z])) H locs ls h1 h2 h3)
theorem aw_mmax (C : Cx p s m args meth c cc own nL Ts ret s0.heap.size D tys) {index : Nat} {x y : Int32} (h1 : Cond.methodLink own index Lib.Math.max.name ∈ Ts) (h2 : Cond.static Lib.Math.max.name ∈ Ts) (h3 : Cond.initialized "java/lang/Math" ∈ Ts) (h4 : Cond.code Lib.Math.max.name Lib.Math.max.code 2 (some .int) ∈ Ts) (hf : 1 ≤ R.frames) (hlo : (st.map fun v => v.category).sum + 13 ≤ R.locals) (hc : cells ≤ R.cells) (hs : slots ≤ R.slots) (hdg : decode cc pc = .ok (.invokestatic index, 3))
    (kk : Aw p l e R s m args below meth c Q s0.heap.size D nL μ cells slots (pc + 3) lv (.int (if x < y then y else x) :: st)) : Aw p l e R s m args below meth c Q s0.heap.size D nL μ cells slots pc lv (.int y :: .int x :: st) := fun H locs ls g1 g2 g3 =>
  va_mmax C.1 C.2.1 (by rw [C.2.2.1]; exact g3.1.symm) C.2.2.2.1 (C.2.2.2.2.1 _ h1) (C.2.2.2.2.1 _ h2) (C.2.2.2.2.1 _ h3) (C.2.2.2.2.1 _ h4) hf hlo hc hs hdg (kk H locs ls g1 g2 g3)
end ROWS2
section KT
variable {l : Launch} {s0 : State} {D : va_G} {g : Nat → ClassId}
set_option maxRecDepth 100000 in
set_option maxHeartbeats 4000000 in
theorem k_Jxa1e45_init_da8c8 (B : Base s0) {μ : mu} {a : Nat} : Ct l yJxa1e45_init_da8c8 wsJxa1e45_init_da8c8 (rmOf 1 0 0 40) s0 D (tyL g) [.ref a] μ 0 0 (fun v9 μ' => v9 = none ∧ μ' = μ) := by
  refine Ct.of (cc := cJxa1e45_init_da8c8) (own := RJxa1e45) (maxL := 1) (ret := none) (by decide) rfl rfl (Nat.le_of_ble_eq_true rfl) ?_
  intro p e s m args below meth c Q C hE hnm hQe
  refine aw_aload_n C dJxa1e45_init_da8c8_0 rfl ?_
  refine aw_objInit C (index := 1) (by decide +kernel) (by decide +kernel) (by decide +kernel) (by decide) (by decide) dJxa1e45_init_da8c8_1 ?_
  refine aw_vret C hQe ?_ (by omega) (by omega) dJxa1e45_init_da8c8_4
  exact ⟨rfl, rfl⟩
set_option maxRecDepth 100000 in
set_option maxHeartbeats 4000000 in
theorem k_Jxc12de_init_da8c8 (B : Base s0) {μ : mu} {a : Nat} (h1 : μ a = some (.inr (1, [.int 0, .null, .int 0]))) : Ct l yJxc12de_init_da8c8 wsJxc12de_init_da8c8 (rmOf 2 0 0 80) s0 D (tyL g) [.ref a] μ 0 0 (fun v9 μ' => v9 = none ∧ μ' = μ) := by
  refine Ct.of (cc := cJxc12de_init_da8c8) (own := RJxc12de) (maxL := 1) (ret := none) (by decide) rfl rfl (Nat.le_of_ble_eq_true rfl) ?_
  intro p e s m args below meth c Q C hE hnm hQe
  have in_RJx4a65c : ∀ w ∈ u_ws RJx4a65c TJx4a65c 3, w ∈ wsJxc12de_init_da8c8 := by decide +kernel
  have f7 : FL wsJxc12de_init_da8c8 RJxc12de 7 1 "java/util/AbstractList" RJx4a65c TJx4a65c 3 0 := ⟨in_RJx4a65c, rfl, by decide, by decide +kernel, Or.inl rfl⟩
  refine aw_aload_n C dJxc12de_init_da8c8_0 rfl ?_
  refine aw_callI (n := 0) C hE (k_Jxa1e45_init_da8c8 B) ggJxc12de_init_da8c8_Jxa1e45_init_da8c8 (by decide +kernel) (by decide +kernel) (by decide +kernel) rfl rfl ⟨rfl, rfl⟩ (by decide +kernel) ⟨by decide, by decide⟩ rfl rfl (Nat.le_of_ble_eq_true rfl) dJxc12de_init_da8c8_1 ⟨by decide, by decide⟩ (fun v μ' hp => ?_)
  obtain ⟨rfl, hm9⟩ := hp
  replace hm9 := hm9.symm
  subst hm9
  refine aw_st (st' := []) rfl ?_
  refine aw_aload_n C dJxc12de_init_da8c8_4 rfl ?_
  refine aw_iconst C (v := 0) (by decide) dJxc12de_init_da8c8_5 ?_
  refine aw_putE C f7 ftJA (ty := .int) (by decide +kernel) rfl rfl h1 (Nat.le_of_ble_eq_true rfl) (fs' := [.int 0, .null, .int 0]) rfl dJxc12de_init_da8c8_6 ?_
  refine aw_vret C hQe ?_ (by omega) (by omega) dJxc12de_init_da8c8_9
  exact ⟨rfl, mp_id h1⟩
set_option maxRecDepth 100000 in
set_option maxHeartbeats 4000000 in
theorem k_Jx4a65c_init_da8c8 (B : Base s0) {μ : mu} {a e0 : Nat} (b : BL s0 g e0) (h1 : μ a = some (.inr (1, [.int 0, .null, .int 0]))) : Ct l yJx4a65c_init_da8c8 wsJx4a65c_init_da8c8 (rmOf 3 0 0 120) s0 D (tyL g) [.ref a] μ 0 0 (fun v9 μ' => v9 = none ∧ μ' = mp μ a (eAl 0 e0 0)) := by
  refine Ct.of (cc := cJx4a65c_init_da8c8) (own := RJx4a65c) (maxL := 1) (ret := none) (by decide) rfl rfl (Nat.le_of_ble_eq_true rfl) ?_
  intro p e s m args below meth c Q C hE hnm hQe
  have in_RJx4a65c : ∀ w ∈ u_ws RJx4a65c TJx4a65c 3, w ∈ wsJx4a65c_init_da8c8 := by decide +kernel
  have f9 : FL wsJx4a65c_init_da8c8 RJx4a65c 9 1 "java/util/ArrayList" RJx4a65c TJx4a65c 3 1 := ⟨in_RJx4a65c, rfl, by decide, by decide +kernel, Or.inl rfl⟩
  refine aw_aload_n C dJx4a65c_init_da8c8_0 rfl ?_
  refine aw_callI (n := 0) C hE (k_Jxc12de_init_da8c8 B h1) ggJx4a65c_init_da8c8_Jxc12de_init_da8c8 (by decide +kernel) (by decide +kernel) (by decide +kernel) rfl rfl ⟨rfl, rfl⟩ (by decide +kernel) ⟨by decide, by decide⟩ rfl rfl (Nat.le_of_ble_eq_true rfl) dJx4a65c_init_da8c8_1 ⟨by decide, by decide⟩ (fun v μ' hp => ?_)
  obtain ⟨rfl, hm9⟩ := hp
  replace hm9 := hm9.symm
  subst hm9
  refine aw_st (st' := []) rfl ?_
  refine aw_aload_n C dJx4a65c_init_da8c8_4 rfl ?_
  refine aw_gets C hE b.1 (by decide +kernel : Cond.fieldLink RJx4a65c 39 "java/util/ArrayList" "DEFAULTCAPACITY_EMPTY_ELEMENTDATA" "[Ljava/lang/Object;" ∈ _) dJx4a65c_init_da8c8_5 ?_
  refine aw_putE C f9 ftJA (ty := .array (.object "java/lang/Object")) (by decide +kernel) rfl rfl h1 (Nat.le_of_ble_eq_true rfl) (fs' := [.int 0, .ref e0, .int 0]) rfl dJx4a65c_init_da8c8_8 ?_
  refine aw_vret C hQe ?_ (by omega) (by omega) dJx4a65c_init_da8c8_11
  exact ⟨rfl, rfl⟩
set_option maxRecDepth 100000 in
set_option maxHeartbeats 4000000 in
theorem k_Jx4a65c_size_8abf5 (B : Base s0) {μ : mu} {a el : Nat} {mc n : Int32} (h1 : μ a = some (eAl mc el n)) : Ct l yJx4a65c_size_8abf5 wsJx4a65c_size_8abf5 (rmOf 0 0 0 0) s0 D (tyL g) [.ref a] μ 0 0 (fun v9 μ' => v9 = some (.int n) ∧ μ' = μ) := by
  refine Ct.of (cc := cJx4a65c_size_8abf5) (own := RJx4a65c) (maxL := 1) (ret := (some .int)) (by decide) rfl rfl (Nat.le_of_ble_eq_true rfl) ?_
  intro p e s m args below meth c Q C hE hnm hQe
  have in_RJx4a65c : ∀ w ∈ u_ws RJx4a65c TJx4a65c 3, w ∈ wsJx4a65c_size_8abf5 := by decide +kernel
  have f48 : FL wsJx4a65c_size_8abf5 RJx4a65c 48 1 "java/util/ArrayList" RJx4a65c TJx4a65c 3 2 := ⟨in_RJx4a65c, rfl, by decide, by decide +kernel, Or.inl rfl⟩
  refine aw_aload_n C dJx4a65c_size_8abf5_0 rfl ?_
  refine aw_get C f48 h1 rfl dJx4a65c_size_8abf5_1 ?_
  refine aw_iret C hQe ?_ (by omega) (by omega) dJx4a65c_size_8abf5_4
  exact ⟨rfl, rfl⟩
set_option maxRecDepth 100000 in
set_option maxHeartbeats 4000000 in
theorem k_J3_checkIndex_8e157 (B : Base s0) {μ : mu} {i n : Nat} (hi : i < n) (hn : n < 2 ^ 31) : Ct l yJ3_checkIndex_8e157 wsJ3_checkIndex_8e157 (rmOf 0 0 0 0) s0 D (tyL g) [.int (nI i), .int (nI n), .null] μ 0 0 (fun v9 μ' => v9 = some (.int (nI i)) ∧ μ' = μ) := by
  refine Ct.of (cc := cJ3_checkIndex_8e157) (own := RJ3) (maxL := 3) (ret := (some .int)) (by decide) rfl rfl (Nat.le_of_ble_eq_true rfl) ?_
  intro p e s m args below meth c Q C hE hnm hQe
  refine aw_iload_n C dJ3_checkIndex_8e157_0 rfl ?_
  refine aw_if_lt C (tgt := 9) dJ3_checkIndex_8e157_1 (by decide) (fun c_1 => ?_) (fun c_1 => ?_)
  · exact absurd c_1 (nI_pos (by omega))
  · refine aw_iload_n C dJ3_checkIndex_8e157_4 rfl ?_
    refine aw_iload_n C dJ3_checkIndex_8e157_5 rfl ?_
    refine aw_icmp_lt C (tgt := 16) dJ3_checkIndex_8e157_6 (by decide) (fun c_6 => ?_) (fun c_6 => ?_)
    · refine aw_iload_n C dJ3_checkIndex_8e157_16 rfl ?_
      refine aw_iret C hQe ?_ (by omega) (by omega) dJ3_checkIndex_8e157_17
      exact ⟨rfl, rfl⟩
    · exact absurd (nI_lt hi hn) c_6
set_option maxRecDepth 100000 in
set_option maxHeartbeats 4000000 in
theorem k_J15_checkIndex_7cf53 (B : Base s0) {μ : mu} {i n : Nat} (hi : i < n) (hn : n < 2 ^ 31) : Ct l yJ15_checkIndex_7cf53 wsJ15_checkIndex_7cf53 (rmOf 1 0 0 40) s0 D (tyL g) [.int (nI i), .int (nI n)] μ 0 0 (fun v9 μ' => v9 = some (.int (nI i)) ∧ μ' = μ) := by
  refine Ct.of (cc := cJ15_checkIndex_7cf53) (own := RJ15) (maxL := 2) (ret := (some .int)) (by decide) rfl rfl (Nat.le_of_ble_eq_true rfl) ?_
  intro p e s m args below meth c Q C hE hnm hQe
  refine aw_iload_n C dJ15_checkIndex_7cf53_0 rfl ?_
  refine aw_iload_n C dJ15_checkIndex_7cf53_1 rfl ?_
  refine aw_null C dJ15_checkIndex_7cf53_2 ?_
  refine aw_callS (n := 3) C hE (k_J3_checkIndex_8e157 B hi hn) gJ15_checkIndex_7cf53_J3_checkIndex_8e157 rfl ⟨rfl, rfl⟩ (by decide +kernel) ⟨by decide, by decide⟩ rfl rfl (Nat.le_of_ble_eq_true rfl) dJ15_checkIndex_7cf53_3 ⟨by decide, by decide⟩ (fun v μ' hp => ?_)
  obtain ⟨rfl, hm9⟩ := hp
  replace hm9 := hm9.symm
  subst hm9
  refine aw_st (st' := [.int (nI i)]) rfl ?_
  refine aw_iret C hQe ?_ (by omega) (by omega) dJ15_checkIndex_7cf53_6
  exact ⟨rfl, rfl⟩
set_option maxRecDepth 100000 in
set_option maxHeartbeats 4000000 in
theorem k_Jx4a65c_elementData_915e3 (B : Base s0) {μ : mu} {a el : Nat} {mc : Int32} {n : Nat} (h1 : μ a = some (eAl mc el (nI n))) {fe : Nat → Option Nat} (h2 : μ el = some (eQ (g 5) 10 fe)) {i w9 : Nat} (hi : i < n) (hn : n ≤ 10) (hf : fe i = some w9) : Ct l yJx4a65c_elementData_915e3 wsJx4a65c_elementData_915e3 (rmOf 0 0 0 0) s0 D (tyL g) [.ref a, .int (nI i)] μ 0 0 (fun v9 μ' => v9 = some (.ref w9) ∧ μ' = μ) := by
  refine Ct.of (cc := cJx4a65c_elementData_915e3) (own := RJx4a65c) (maxL := 2) (ret := (some (.object "java/lang/Object"))) (by decide) rfl rfl (Nat.le_of_ble_eq_true rfl) ?_
  intro p e s m args below meth c Q C hE hnm hQe
  have in_RJx4a65c : ∀ w ∈ u_ws RJx4a65c TJx4a65c 3, w ∈ wsJx4a65c_elementData_915e3 := by decide +kernel
  have f9 : FL wsJx4a65c_elementData_915e3 RJx4a65c 9 1 "java/util/ArrayList" RJx4a65c TJx4a65c 3 1 := ⟨in_RJx4a65c, rfl, by decide, by decide +kernel, Or.inl rfl⟩
  refine aw_aload_n C dJx4a65c_elementData_915e3_0 rfl ?_
  refine aw_get C f9 h1 rfl dJx4a65c_elementData_915e3_1 ?_
  refine aw_iload_n C dJx4a65c_elementData_915e3_4 rfl ?_
  refine aw_aaldE C (t0 := 5) rfl h2 rfl ⟨by omega, by decide⟩ hf dJx4a65c_elementData_915e3_5 ?_
  refine aw_aret C (Or.inl ⟨_, rfl⟩) hQe ?_ (by omega) (by omega) dJx4a65c_elementData_915e3_6
  exact ⟨rfl, rfl⟩
set_option maxRecDepth 100000 in
set_option maxHeartbeats 4000000 in
theorem k_Jx4a65c_get_915e3 (B : Base s0) {μ : mu} {a el : Nat} {mc : Int32} {n : Nat} (h1 : μ a = some (eAl mc el (nI n))) {fe : Nat → Option Nat} (h2 : μ el = some (eQ (g 5) 10 fe)) {i w9 : Nat} (hi : i < n) (hn : n ≤ 10) (hf : fe i = some w9) : Ct l yJx4a65c_get_915e3 wsJx4a65c_get_915e3 (rmOf 2 0 0 80) s0 D (tyL g) [.ref a, .int (nI i)] μ 0 0 (fun v9 μ' => v9 = some (.ref w9) ∧ μ' = μ) := by
  refine Ct.of (cc := cJx4a65c_get_915e3) (own := RJx4a65c) (maxL := 2) (ret := (some (.object "java/lang/Object"))) (by decide) rfl rfl (Nat.le_of_ble_eq_true rfl) ?_
  intro p e s m args below meth c Q C hE hnm hQe
  have in_RJx4a65c : ∀ w ∈ u_ws RJx4a65c TJx4a65c 3, w ∈ wsJx4a65c_get_915e3 := by decide +kernel
  have f48 : FL wsJx4a65c_get_915e3 RJx4a65c 48 1 "java/util/ArrayList" RJx4a65c TJx4a65c 3 2 := ⟨in_RJx4a65c, rfl, by decide, by decide +kernel, Or.inl rfl⟩
  refine aw_iload_n C dJx4a65c_get_915e3_0 rfl ?_
  refine aw_aload_n C dJx4a65c_get_915e3_1 rfl ?_
  refine aw_get C f48 h1 rfl dJx4a65c_get_915e3_2 ?_
  refine aw_callS (n := 2) C hE (k_J15_checkIndex_7cf53 B hi (by omega)) gJx4a65c_get_915e3_J15_checkIndex_7cf53 rfl ⟨rfl, rfl⟩ (by decide +kernel) ⟨by decide, by decide⟩ rfl rfl (Nat.le_of_ble_eq_true rfl) dJx4a65c_get_915e3_5 ⟨by decide, by decide⟩ (fun v μ' hp => ?_)
  obtain ⟨rfl, hm9⟩ := hp
  replace hm9 := hm9.symm
  subst hm9
  refine aw_st (st' := [.int (nI i)]) rfl ?_
  refine aw_pop C rfl dJx4a65c_get_915e3_8 ?_
  refine aw_aload_n C dJx4a65c_get_915e3_9 rfl ?_
  refine aw_iload_n C dJx4a65c_get_915e3_10 rfl ?_
  refine aw_callV (n := 1) C hE (ci := 1) (q := (RJx4a65c, TJx4a65c, 3)) (k_Jx4a65c_elementData_915e3 B h1 h2 hi hn hf) gJx4a65c_get_915e3_Jx4a65c_elementData_915e3 rfl ⟨rfl, rfl⟩ (by decide +kernel) ⟨by decide, by decide⟩ rfl rfl h1 rfl (Nat.le_of_ble_eq_true rfl) dJx4a65c_get_915e3_11 ⟨by decide, by decide⟩ (fun v μ' hp => ?_)
  obtain ⟨rfl, hm9⟩ := hp
  replace hm9 := hm9.symm
  subst hm9
  refine aw_st (st' := [.ref w9]) rfl ?_
  refine aw_aret C (Or.inl ⟨_, rfl⟩) hQe ?_ (by omega) (by omega) dJx4a65c_get_915e3_14
  exact ⟨rfl, rfl⟩
set_option maxRecDepth 100000 in
set_option maxHeartbeats 4000000 in
theorem k_Jx4a65c_grow_92f84 (B : Base s0) {μ : mu} {a e0 : Nat} {mc : Int32} (b : BL s0 g e0) (h1 : μ a = some (eAl mc e0 0)) : Ct l yJx4a65c_grow_92f84 wsJx4a65c_grow_92f84 (rmOf 1 1 10 40) s0 D (tyL g) [.ref a, .int 1] μ 1 10 (fun v9 μ' => ∃ o, v9 = some (.ref o) ∧ μ o = none ∧ μ' = mp (mp μ o (eQ (g 5) 10 (fun _ => none))) a (eAl mc o 0)) := by
  refine Ct.of (cc := cJx4a65c_grow_92f84) (own := RJx4a65c) (maxL := 4) (ret := (some (.array (.object "java/lang/Object")))) (by decide) rfl rfl (Nat.le_of_ble_eq_true rfl) ?_
  intro p e s m args below meth c Q C hE hnm hQe
  have in_RJx4a65c : ∀ w ∈ u_ws RJx4a65c TJx4a65c 3, w ∈ wsJx4a65c_grow_92f84 := by decide +kernel
  have f9 : FL wsJx4a65c_grow_92f84 RJx4a65c 9 1 "java/util/ArrayList" RJx4a65c TJx4a65c 3 1 := ⟨in_RJx4a65c, rfl, by decide, by decide +kernel, Or.inl rfl⟩
  refine aw_aload_n C dJx4a65c_grow_92f84_0 rfl ?_
  refine aw_get C f9 h1 rfl dJx4a65c_grow_92f84_1 ?_
  refine aw_alenO C hE b.2 (v := 0) rfl dJx4a65c_grow_92f84_4 ?_
  refine aw_istore_n C dJx4a65c_grow_92f84_5 (by decide) ?_
  refine aw_iload_n C dJx4a65c_grow_92f84_6 rfl ?_
  refine aw_if_gt C (tgt := 20) dJx4a65c_grow_92f84_7 (by decide) (fun c9 => absurd c9 (by decide)) (fun _ => ?_)
  refine aw_aload_n C dJx4a65c_grow_92f84_10 rfl ?_
  refine aw_get C f9 h1 rfl dJx4a65c_grow_92f84_11 ?_
  refine aw_gets C hE b.1 (by decide +kernel : Cond.fieldLink RJx4a65c 39 "java/util/ArrayList" "DEFAULTCAPACITY_EMPTY_ELEMENTDATA" "[Ljava/lang/Object;" ∈ _) dJx4a65c_grow_92f84_14 ?_
  refine aw_acmp_eq C (tgt := 45) dJx4a65c_grow_92f84_17 (by decide) (fun _ => ?_) (fun c9 => absurd rfl c9)
  refine aw_aload_n C dJx4a65c_grow_92f84_45 rfl ?_
  refine aw_bipush C (v := 10) (by decide) dJx4a65c_grow_92f84_46 ?_
  refine aw_iload_n C dJx4a65c_grow_92f84_48 rfl ?_
  refine aw_mmax C (index := 79) (by decide +kernel) (by decide +kernel) (by decide +kernel) (by decide +kernel) (by decide) (Nat.le_of_ble_eq_true rfl) (by decide) (by decide) dJx4a65c_grow_92f84_49 ?_
  refine aw_st (st' := [.int 10, .ref a]) (by rw [if_neg (by decide)]) ?_
  refine aw_newq C (t0 := 5) (N := 10) (by decide +kernel) (va_AO.warm hE.1 B.ao3) rfl (by decide) (by decide) (by decide) (by decide) (by decide) dJx4a65c_grow_92f84_52 (fun o1 zo1 fo1 => ?_)
  refine aw_dup_x1 C rfl rfl dJx4a65c_grow_92f84_55 ?_
  refine aw_putE C f9 ftJA (ty := .array (.object "java/lang/Object")) (by decide +kernel) rfl rfl (mp_k h1 (nn_ne fo1 h1)) (Nat.le_of_ble_eq_true rfl) (fs' := [.int mc, .ref o1, .int 0]) rfl dJx4a65c_grow_92f84_56 ?_
  refine aw_aret C (Or.inr ⟨_, rfl⟩) hQe ?_ (by omega) (by omega) dJx4a65c_grow_92f84_59
  exact ⟨o1, rfl, fo1, rfl⟩
set_option maxRecDepth 100000 in
set_option maxHeartbeats 4000000 in
theorem k_Jx4a65c_grow_d5877 (B : Base s0) {μ : mu} {a e0 : Nat} {mc : Int32} (b : BL s0 g e0) (h1 : μ a = some (eAl mc e0 0)) : Ct l yJx4a65c_grow_d5877 wsJx4a65c_grow_d5877 (rmOf 2 1 10 80) s0 D (tyL g) [.ref a] μ 1 10 (fun v9 μ' => ∃ o, v9 = some (.ref o) ∧ μ o = none ∧ μ' = mp (mp μ o (eQ (g 5) 10 (fun _ => none))) a (eAl mc o 0)) := by
  refine Ct.of (cc := cJx4a65c_grow_d5877) (own := RJx4a65c) (maxL := 1) (ret := (some (.array (.object "java/lang/Object")))) (by decide) rfl rfl (Nat.le_of_ble_eq_true rfl) ?_
  intro p e s m args below meth c Q C hE hnm hQe
  have in_RJx4a65c : ∀ w ∈ u_ws RJx4a65c TJx4a65c 3, w ∈ wsJx4a65c_grow_d5877 := by decide +kernel
  have f48 : FL wsJx4a65c_grow_d5877 RJx4a65c 48 1 "java/util/ArrayList" RJx4a65c TJx4a65c 3 2 := ⟨in_RJx4a65c, rfl, by decide, by decide +kernel, Or.inl rfl⟩
  refine aw_aload_n C dJx4a65c_grow_d5877_0 rfl ?_
  refine aw_aload_n C dJx4a65c_grow_d5877_1 rfl ?_
  refine aw_get C f48 h1 rfl dJx4a65c_grow_d5877_2 ?_
  refine aw_iconst C (v := 1) (by decide) dJx4a65c_grow_d5877_5 ?_
  refine aw_iadd C dJx4a65c_grow_d5877_6 ?_
  refine aw_eqi (y := 1) (by decide) ?_
  refine aw_callV (n := 1) C hE (ci := 1) (q := (RJx4a65c, TJx4a65c, 3)) (k_Jx4a65c_grow_92f84 B b h1) gJx4a65c_grow_d5877_Jx4a65c_grow_92f84 rfl ⟨rfl, rfl⟩ (by decide +kernel) ⟨by decide, by decide⟩ rfl rfl h1 rfl (Nat.le_of_ble_eq_true rfl) dJx4a65c_grow_d5877_7 ⟨by decide, by decide⟩ (fun v μ' hp => ?_)
  obtain ⟨o9, rfl, fo9, hm9⟩ := hp
  replace hm9 := hm9.symm
  subst hm9
  refine aw_st (st' := [.ref o9]) rfl ?_
  refine aw_aret C (Or.inr ⟨_, rfl⟩) hQe ?_ (by omega) (by omega) dJx4a65c_grow_d5877_10
  exact ⟨o9, rfl, fo9, rfl⟩
set_option maxRecDepth 100000 in
set_option maxHeartbeats 4000000 in
theorem k_add0A (B : Base s0) {μ : mu} {a e0 : Nat} {mc : Int32} (b : BL s0 g e0) (h1 : μ a = some (eAl mc e0 0)) {A : Nat → Int32} {cr : UInt32} {r : Nat} (h3 : μ r = some (eXa A cr)) : Ct l yJx4a65c_add_72be8 wsJx4a65c_add_72be8 (rmOf 3 1 10 120) s0 D (tyL g) [.ref a, .ref r, .ref e0, .int 0] μ 1 10 (fun v9 μ' => v9 = none ∧ ∃ o, μ o = none ∧ μ' = mp (mp (mp (mp μ o (eQ (g 5) 10 (fun _ => none))) a (eAl mc o 0)) o (eQ (g 5) 10 (va_up (fun _ => none) 0 (some r)))) a (eAl mc o 1)) := by
  refine Ct.of (cc := cJx4a65c_add_72be8) (own := RJx4a65c) (maxL := 4) (ret := none) (by decide) rfl rfl (Nat.le_of_ble_eq_true rfl) ?_
  intro p e s m args below meth c Q C hE hnm hQe
  have in_RJx4a65c : ∀ w ∈ u_ws RJx4a65c TJx4a65c 3, w ∈ wsJx4a65c_add_72be8 := by decide +kernel
  have f48 : FL wsJx4a65c_add_72be8 RJx4a65c 48 1 "java/util/ArrayList" RJx4a65c TJx4a65c 3 2 := ⟨in_RJx4a65c, rfl, by decide, by decide +kernel, Or.inl rfl⟩
  refine aw_iload_n C dJx4a65c_add_72be8_0 rfl ?_
  refine aw_aload_n C dJx4a65c_add_72be8_1 rfl ?_
  refine aw_alenO C hE b.2 (v := 0) rfl dJx4a65c_add_72be8_2 ?_
  refine aw_icmp_ne C (tgt := 11) dJx4a65c_add_72be8_3 (by decide) (fun c9 => absurd (by decide) c9) (fun _ => ?_)
  refine aw_aload_n C dJx4a65c_add_72be8_6 rfl ?_
  refine aw_callV (n := 0) C hE (ci := 1) (q := (RJx4a65c, TJx4a65c, 3)) (k_Jx4a65c_grow_d5877 B b h1) gJx4a65c_add_72be8_Jx4a65c_grow_d5877 rfl ⟨rfl, rfl⟩ (by decide +kernel) ⟨by decide, by decide⟩ rfl rfl h1 rfl (Nat.le_of_ble_eq_true rfl) dJx4a65c_add_72be8_7 ⟨by decide, by decide⟩ (fun v μ' hp => ?_)
  obtain ⟨o9, rfl, fo9, hm9⟩ := hp
  replace hm9 := hm9.symm
  subst hm9
  refine aw_st (st' := [.ref o9]) rfl ?_
  refine aw_astore_n C dJx4a65c_add_72be8_10 (by decide) ?_
  refine aw_aload_n C dJx4a65c_add_72be8_11 rfl ?_
  refine aw_iload_n C dJx4a65c_add_72be8_12 rfl ?_
  refine aw_aload_n C dJx4a65c_add_72be8_13 rfl ?_
  refine aw_aastE C (t0 := 5) (ci := 7) rfl (va_Nw.warmC hE.1 B.caXaO) rfl (mp_k mp_s (nn_ne fo9 h1).symm) (mp_k (mp_k h3 (nn_ne fo9 h3)) (tag_ne h3 h1 rfl)) (by decide : (0 : Int32) = nI 0) ⟨by decide, by decide⟩ dJx4a65c_add_72be8_14 ?_
  refine aw_aload_n C dJx4a65c_add_72be8_15 rfl ?_
  refine aw_iload_n C dJx4a65c_add_72be8_16 rfl ?_
  refine aw_iconst C (v := 1) (by decide) dJx4a65c_add_72be8_17 ?_
  refine aw_iadd C dJx4a65c_add_72be8_18 ?_
  refine aw_putE C f48 ftJA (ty := .int) (by decide +kernel) rfl rfl (mp_k mp_s (nn_ne fo9 h1)) (Nat.le_of_ble_eq_true rfl) (fs' := [.int mc, .ref o9, .int (0 + 1)]) rfl dJx4a65c_add_72be8_19 ?_
  refine aw_vret C hQe ?_ (by omega) (by omega) dJx4a65c_add_72be8_22
  exact ⟨rfl, o9, fo9, rfl⟩
set_option maxRecDepth 100000 in
set_option maxHeartbeats 4000000 in
theorem k_addFA (B : Base s0) {μ : mu} {a e0 : Nat} {mc : Int32} (b : BL s0 g e0) (h1 : μ a = some (eAl mc e0 0)) {A : Nat → Int32} {cr : UInt32} {r : Nat} (h3 : μ r = some (eXa A cr)) : Ct l yJx4a65c_add_9ea2d wsJx4a65c_add_9ea2d (rmOf 4 1 10 170) s0 D (tyL g) [.ref a, .ref r] μ 1 10 (fun v9 μ' => v9 = some (.int 1) ∧ ∃ o, μ o = none ∧ o ≠ a ∧ μ' o = some (eQ (g 5) 10 (va_up (fun _ => none) 0 (some r))) ∧ μ' a = some (eAl (mc + 1) o 1) ∧ ∀ x e, μ x = some e → x ≠ a → μ' x = some e) := by
  refine Ct.of (cc := cJx4a65c_add_9ea2d) (own := RJx4a65c) (maxL := 2) (ret := (some .boolean)) (by decide) rfl rfl (Nat.le_of_ble_eq_true rfl) ?_
  intro p e s m args below meth c Q C hE hnm hQe
  have in_RJx4a65c : ∀ w ∈ u_ws RJx4a65c TJx4a65c 3, w ∈ wsJx4a65c_add_9ea2d := by decide +kernel
  have f63 : FL wsJx4a65c_add_9ea2d RJx4a65c 63 1 "java/util/ArrayList" RJx4a65c TJx4a65c 3 0 := ⟨in_RJx4a65c, rfl, by decide, by decide +kernel, Or.inr (by decide +kernel)⟩
  have f9 : FL wsJx4a65c_add_9ea2d RJx4a65c 9 1 "java/util/ArrayList" RJx4a65c TJx4a65c 3 1 := ⟨in_RJx4a65c, rfl, by decide, by decide +kernel, Or.inl rfl⟩
  have f48 : FL wsJx4a65c_add_9ea2d RJx4a65c 48 1 "java/util/ArrayList" RJx4a65c TJx4a65c 3 2 := ⟨in_RJx4a65c, rfl, by decide, by decide +kernel, Or.inl rfl⟩
  refine aw_aload_n C dJx4a65c_add_9ea2d_0 rfl ?_
  refine aw_dup C rfl dJx4a65c_add_9ea2d_1 ?_
  refine aw_get C f63 h1 rfl dJx4a65c_add_9ea2d_2 ?_
  refine aw_iconst C (v := 1) (by decide) dJx4a65c_add_9ea2d_5 ?_
  refine aw_iadd C dJx4a65c_add_9ea2d_6 ?_
  refine aw_putE C f63 ftJA (ty := .int) (by decide +kernel) rfl rfl h1 (Nat.le_of_ble_eq_true rfl) (fs' := [.int (mc + 1), .ref e0, .int 0]) rfl dJx4a65c_add_9ea2d_7 ?_
  refine aw_aload_n C dJx4a65c_add_9ea2d_10 rfl ?_
  refine aw_aload_n C dJx4a65c_add_9ea2d_11 rfl ?_
  refine aw_aload_n C dJx4a65c_add_9ea2d_12 rfl ?_
  refine aw_get C f9 mp_s rfl dJx4a65c_add_9ea2d_13 ?_
  refine aw_aload_n C dJx4a65c_add_9ea2d_16 rfl ?_
  refine aw_get C f48 mp_s rfl dJx4a65c_add_9ea2d_17 ?_
  refine aw_callV (n := 3) C hE (ci := 1) (q := (RJx4a65c, TJx4a65c, 3)) (k_add0A B b mp_s (mp_k h3 (tag_ne h3 h1 rfl))) gJx4a65c_add_9ea2d_Jx4a65c_add_72be8 rfl ⟨rfl, rfl⟩ (by decide +kernel) ⟨by decide, by decide⟩ rfl rfl mp_s rfl (Nat.le_of_ble_eq_true rfl) dJx4a65c_add_9ea2d_20 ⟨by decide, by decide⟩ (fun v μ' hp => ?_)
  obtain ⟨rfl, o9, fo9, hm9⟩ := hp
  replace hm9 := hm9.symm
  subst hm9
  refine aw_st (st' := []) rfl ?_
  refine aw_iconst C (v := 1) (by decide) dJx4a65c_add_9ea2d_23 ?_
  refine aw_zret C hQe rfl ?_ (by omega) (by omega) dJx4a65c_add_9ea2d_24
  have f1 := (mp_none fo9)
  exact ⟨rfl, o9, f1.1, f1.2, mp_k mp_s f1.2, mp_s, fun x e hx hn => mp_k (mp_k (mp_k (mp_k (mp_k hx hn) (nn_ne f1.1 hx)) hn) (nn_ne f1.1 hx)) hn⟩
set_option maxRecDepth 100000 in
set_option maxHeartbeats 4000000 in
theorem k_add1A (B : Base s0) {μ : mu} {a el : Nat} {mc : Int32} {n : Nat} {fe : Nat → Option Nat} (h1 : μ a = some (eAl mc el (nI n))) (h2 : μ el = some (eQ (g 5) 10 fe)) (hn : n < 10) {A : Nat → Int32} {cr : UInt32} {r : Nat} (h3 : μ r = some (eXa A cr)) : Ct l yJx4a65c_add_72be8 wsJx4a65c_add_72be8 (rmOf 3 1 10 120) s0 D (tyL g) [.ref a, .ref r, .ref el, .int (nI n)] μ 1 10 (fun v9 μ' => v9 = none ∧ μ' = mp (mp μ el (eQ (g 5) 10 (va_up fe n (some r)))) a (eAl mc el (nI n + 1))) := by
  refine Ct.of (cc := cJx4a65c_add_72be8) (own := RJx4a65c) (maxL := 4) (ret := none) (by decide) rfl rfl (Nat.le_of_ble_eq_true rfl) ?_
  intro p e s m args below meth c Q C hE hnm hQe
  have in_RJx4a65c : ∀ w ∈ u_ws RJx4a65c TJx4a65c 3, w ∈ wsJx4a65c_add_72be8 := by decide +kernel
  have f48 : FL wsJx4a65c_add_72be8 RJx4a65c 48 1 "java/util/ArrayList" RJx4a65c TJx4a65c 3 2 := ⟨in_RJx4a65c, rfl, by decide, by decide +kernel, Or.inl rfl⟩
  refine aw_iload_n C dJx4a65c_add_72be8_0 rfl ?_
  refine aw_aload_n C dJx4a65c_add_72be8_1 rfl ?_
  refine aw_alen C (t0 := 5) rfl h2 (v := 10) rfl dJx4a65c_add_72be8_2 ?_
  refine aw_icmp_ne C (tgt := 11) dJx4a65c_add_72be8_3 (by decide) (fun c_3 => ?_) (fun c_3 => ?_)
  · refine aw_aload_n C dJx4a65c_add_72be8_11 rfl ?_
    refine aw_iload_n C dJx4a65c_add_72be8_12 rfl ?_
    refine aw_aload_n C dJx4a65c_add_72be8_13 rfl ?_
    refine aw_aastE C (t0 := 5) (ci := 7) rfl (va_Nw.warmC hE.1 B.caXaO) rfl h2 h3 rfl ⟨hn, by decide⟩ dJx4a65c_add_72be8_14 ?_
    refine aw_aload_n C dJx4a65c_add_72be8_15 rfl ?_
    refine aw_iload_n C dJx4a65c_add_72be8_16 rfl ?_
    refine aw_iconst C (v := 1) (by decide) dJx4a65c_add_72be8_17 ?_
    refine aw_iadd C dJx4a65c_add_72be8_18 ?_
    refine aw_putE C f48 ftJA (ty := .int) (by decide +kernel) rfl rfl (mp_k h1 (tag_ne h1 h2 rfl)) (Nat.le_of_ble_eq_true rfl) (fs' := [.int mc, .ref el, .int ((nI n) + 1)]) rfl dJx4a65c_add_72be8_19 ?_
    refine aw_vret C hQe ?_ (by omega) (by omega) dJx4a65c_add_72be8_22
    exact ⟨rfl, rfl⟩
  · exact absurd ((nI_eq (b := 10) (by omega) (by decide)).mp c_3) (by omega)
set_option maxRecDepth 100000 in
set_option maxHeartbeats 4000000 in
theorem k_addNA (B : Base s0) {μ : mu} {a el : Nat} {mc : Int32} {n : Nat} {fe : Nat → Option Nat} (h1 : μ a = some (eAl mc el (nI n))) (h2 : μ el = some (eQ (g 5) 10 fe)) (hn : n < 10) {A : Nat → Int32} {cr : UInt32} {r : Nat} (h3 : μ r = some (eXa A cr)) : Ct l yJx4a65c_add_9ea2d wsJx4a65c_add_9ea2d (rmOf 4 1 10 170) s0 D (tyL g) [.ref a, .ref r] μ 1 10 (fun v9 μ' => v9 = some (.int 1) ∧ μ' el = some (eQ (g 5) 10 (va_up fe n (some r))) ∧ μ' a = some (eAl (mc + 1) el (nI (n + 1))) ∧ ∀ x e, μ x = some e → x ≠ a → x ≠ el → μ' x = some e) := by
  refine Ct.of (cc := cJx4a65c_add_9ea2d) (own := RJx4a65c) (maxL := 2) (ret := (some .boolean)) (by decide) rfl rfl (Nat.le_of_ble_eq_true rfl) ?_
  intro p e s m args below meth c Q C hE hnm hQe
  have in_RJx4a65c : ∀ w ∈ u_ws RJx4a65c TJx4a65c 3, w ∈ wsJx4a65c_add_9ea2d := by decide +kernel
  have f63 : FL wsJx4a65c_add_9ea2d RJx4a65c 63 1 "java/util/ArrayList" RJx4a65c TJx4a65c 3 0 := ⟨in_RJx4a65c, rfl, by decide, by decide +kernel, Or.inr (by decide +kernel)⟩
  have f9 : FL wsJx4a65c_add_9ea2d RJx4a65c 9 1 "java/util/ArrayList" RJx4a65c TJx4a65c 3 1 := ⟨in_RJx4a65c, rfl, by decide, by decide +kernel, Or.inl rfl⟩
  have f48 : FL wsJx4a65c_add_9ea2d RJx4a65c 48 1 "java/util/ArrayList" RJx4a65c TJx4a65c 3 2 := ⟨in_RJx4a65c, rfl, by decide, by decide +kernel, Or.inl rfl⟩
  have nea : el ≠ a := tag_ne h2 h1 rfl
  refine aw_aload_n C dJx4a65c_add_9ea2d_0 rfl ?_
  refine aw_dup C rfl dJx4a65c_add_9ea2d_1 ?_
  refine aw_get C f63 h1 rfl dJx4a65c_add_9ea2d_2 ?_
  refine aw_iconst C (v := 1) (by decide) dJx4a65c_add_9ea2d_5 ?_
  refine aw_iadd C dJx4a65c_add_9ea2d_6 ?_
  refine aw_putE C f63 ftJA (ty := .int) (by decide +kernel) rfl rfl h1 (Nat.le_of_ble_eq_true rfl) (fs' := [.int (mc + 1), .ref el, .int (nI n)]) rfl dJx4a65c_add_9ea2d_7 ?_
  refine aw_aload_n C dJx4a65c_add_9ea2d_10 rfl ?_
  refine aw_aload_n C dJx4a65c_add_9ea2d_11 rfl ?_
  refine aw_aload_n C dJx4a65c_add_9ea2d_12 rfl ?_
  refine aw_get C f9 mp_s rfl dJx4a65c_add_9ea2d_13 ?_
  refine aw_aload_n C dJx4a65c_add_9ea2d_16 rfl ?_
  refine aw_get C f48 mp_s rfl dJx4a65c_add_9ea2d_17 ?_
  refine aw_callV (n := 3) C hE (ci := 1) (q := (RJx4a65c, TJx4a65c, 3)) (k_add1A B mp_s (mp_k h2 (Ne.symm nea.symm)) hn (mp_k h3 (tag_ne h3 h1 rfl))) gJx4a65c_add_9ea2d_Jx4a65c_add_72be8 rfl ⟨rfl, rfl⟩ (by decide +kernel) ⟨by decide, by decide⟩ rfl rfl mp_s rfl (Nat.le_of_ble_eq_true rfl) dJx4a65c_add_9ea2d_20 ⟨by decide, by decide⟩ (fun v μ' hp => ?_)
  obtain ⟨rfl, hm9⟩ := hp
  replace hm9 := hm9.symm
  subst hm9
  refine aw_st (st' := []) rfl ?_
  refine aw_iconst C (v := 1) (by decide) dJx4a65c_add_9ea2d_23 ?_
  refine aw_zret C hQe rfl ?_ (by omega) (by omega) dJx4a65c_add_9ea2d_24
  exact ⟨rfl, mp_k mp_s nea, by rw [← nI_1]; exact mp_s, fun x e hx hn hn2 => mp_k (mp_k (mp_k hx hn) hn2) hn⟩
set_option maxRecDepth 100000 in
set_option maxHeartbeats 4000000 in
theorem k_add0Q (B : Base s0) {μ : mu} {a e0 : Nat} {mc : Int32} (b : BL s0 g e0) (h1 : μ a = some (eAl mc e0 0)) {q : Nat → Int32} {u1 u2 u3 : Nat} {r : Nat} (h3 : μ r = some (eXq q u1 u2 u3)) : Ct l yJx4a65c_add_72be8 wsJx4a65c_add_72be8 (rmOf 3 1 10 120) s0 D (tyL g) [.ref a, .ref r, .ref e0, .int 0] μ 1 10 (fun v9 μ' => v9 = none ∧ ∃ o, μ o = none ∧ μ' = mp (mp (mp (mp μ o (eQ (g 5) 10 (fun _ => none))) a (eAl mc o 0)) o (eQ (g 5) 10 (va_up (fun _ => none) 0 (some r)))) a (eAl mc o 1)) := by
  refine Ct.of (cc := cJx4a65c_add_72be8) (own := RJx4a65c) (maxL := 4) (ret := none) (by decide) rfl rfl (Nat.le_of_ble_eq_true rfl) ?_
  intro p e s m args below meth c Q C hE hnm hQe
  have in_RJx4a65c : ∀ w ∈ u_ws RJx4a65c TJx4a65c 3, w ∈ wsJx4a65c_add_72be8 := by decide +kernel
  have f48 : FL wsJx4a65c_add_72be8 RJx4a65c 48 1 "java/util/ArrayList" RJx4a65c TJx4a65c 3 2 := ⟨in_RJx4a65c, rfl, by decide, by decide +kernel, Or.inl rfl⟩
  refine aw_iload_n C dJx4a65c_add_72be8_0 rfl ?_
  refine aw_aload_n C dJx4a65c_add_72be8_1 rfl ?_
  refine aw_alenO C hE b.2 (v := 0) rfl dJx4a65c_add_72be8_2 ?_
  refine aw_icmp_ne C (tgt := 11) dJx4a65c_add_72be8_3 (by decide) (fun c9 => absurd (by decide) c9) (fun _ => ?_)
  refine aw_aload_n C dJx4a65c_add_72be8_6 rfl ?_
  refine aw_callV (n := 0) C hE (ci := 1) (q := (RJx4a65c, TJx4a65c, 3)) (k_Jx4a65c_grow_d5877 B b h1) gJx4a65c_add_72be8_Jx4a65c_grow_d5877 rfl ⟨rfl, rfl⟩ (by decide +kernel) ⟨by decide, by decide⟩ rfl rfl h1 rfl (Nat.le_of_ble_eq_true rfl) dJx4a65c_add_72be8_7 ⟨by decide, by decide⟩ (fun v μ' hp => ?_)
  obtain ⟨o9, rfl, fo9, hm9⟩ := hp
  replace hm9 := hm9.symm
  subst hm9
  refine aw_st (st' := [.ref o9]) rfl ?_
  refine aw_astore_n C dJx4a65c_add_72be8_10 (by decide) ?_
  refine aw_aload_n C dJx4a65c_add_72be8_11 rfl ?_
  refine aw_iload_n C dJx4a65c_add_72be8_12 rfl ?_
  refine aw_aload_n C dJx4a65c_add_72be8_13 rfl ?_
  refine aw_aastE C (t0 := 5) (ci := 8) rfl (va_Nw.warmC hE.1 B.caXqO) rfl (mp_k mp_s (nn_ne fo9 h1).symm) (mp_k (mp_k h3 (nn_ne fo9 h3)) (tag_ne h3 h1 rfl)) (by decide : (0 : Int32) = nI 0) ⟨by decide, by decide⟩ dJx4a65c_add_72be8_14 ?_
  refine aw_aload_n C dJx4a65c_add_72be8_15 rfl ?_
  refine aw_iload_n C dJx4a65c_add_72be8_16 rfl ?_
  refine aw_iconst C (v := 1) (by decide) dJx4a65c_add_72be8_17 ?_
  refine aw_iadd C dJx4a65c_add_72be8_18 ?_
  refine aw_putE C f48 ftJA (ty := .int) (by decide +kernel) rfl rfl (mp_k mp_s (nn_ne fo9 h1)) (Nat.le_of_ble_eq_true rfl) (fs' := [.int mc, .ref o9, .int (0 + 1)]) rfl dJx4a65c_add_72be8_19 ?_
  refine aw_vret C hQe ?_ (by omega) (by omega) dJx4a65c_add_72be8_22
  exact ⟨rfl, o9, fo9, rfl⟩
set_option maxRecDepth 100000 in
set_option maxHeartbeats 4000000 in
theorem k_addFQ (B : Base s0) {μ : mu} {a e0 : Nat} {mc : Int32} (b : BL s0 g e0) (h1 : μ a = some (eAl mc e0 0)) {q : Nat → Int32} {u1 u2 u3 : Nat} {r : Nat} (h3 : μ r = some (eXq q u1 u2 u3)) : Ct l yJx4a65c_add_9ea2d wsJx4a65c_add_9ea2d (rmOf 4 1 10 170) s0 D (tyL g) [.ref a, .ref r] μ 1 10 (fun v9 μ' => v9 = some (.int 1) ∧ ∃ o, μ o = none ∧ o ≠ a ∧ μ' o = some (eQ (g 5) 10 (va_up (fun _ => none) 0 (some r))) ∧ μ' a = some (eAl (mc + 1) o 1) ∧ ∀ x e, μ x = some e → x ≠ a → μ' x = some e) := by
  refine Ct.of (cc := cJx4a65c_add_9ea2d) (own := RJx4a65c) (maxL := 2) (ret := (some .boolean)) (by decide) rfl rfl (Nat.le_of_ble_eq_true rfl) ?_
  intro p e s m args below meth c Q C hE hnm hQe
  have in_RJx4a65c : ∀ w ∈ u_ws RJx4a65c TJx4a65c 3, w ∈ wsJx4a65c_add_9ea2d := by decide +kernel
  have f63 : FL wsJx4a65c_add_9ea2d RJx4a65c 63 1 "java/util/ArrayList" RJx4a65c TJx4a65c 3 0 := ⟨in_RJx4a65c, rfl, by decide, by decide +kernel, Or.inr (by decide +kernel)⟩
  have f9 : FL wsJx4a65c_add_9ea2d RJx4a65c 9 1 "java/util/ArrayList" RJx4a65c TJx4a65c 3 1 := ⟨in_RJx4a65c, rfl, by decide, by decide +kernel, Or.inl rfl⟩
  have f48 : FL wsJx4a65c_add_9ea2d RJx4a65c 48 1 "java/util/ArrayList" RJx4a65c TJx4a65c 3 2 := ⟨in_RJx4a65c, rfl, by decide, by decide +kernel, Or.inl rfl⟩
  refine aw_aload_n C dJx4a65c_add_9ea2d_0 rfl ?_
  refine aw_dup C rfl dJx4a65c_add_9ea2d_1 ?_
  refine aw_get C f63 h1 rfl dJx4a65c_add_9ea2d_2 ?_
  refine aw_iconst C (v := 1) (by decide) dJx4a65c_add_9ea2d_5 ?_
  refine aw_iadd C dJx4a65c_add_9ea2d_6 ?_
  refine aw_putE C f63 ftJA (ty := .int) (by decide +kernel) rfl rfl h1 (Nat.le_of_ble_eq_true rfl) (fs' := [.int (mc + 1), .ref e0, .int 0]) rfl dJx4a65c_add_9ea2d_7 ?_
  refine aw_aload_n C dJx4a65c_add_9ea2d_10 rfl ?_
  refine aw_aload_n C dJx4a65c_add_9ea2d_11 rfl ?_
  refine aw_aload_n C dJx4a65c_add_9ea2d_12 rfl ?_
  refine aw_get C f9 mp_s rfl dJx4a65c_add_9ea2d_13 ?_
  refine aw_aload_n C dJx4a65c_add_9ea2d_16 rfl ?_
  refine aw_get C f48 mp_s rfl dJx4a65c_add_9ea2d_17 ?_
  refine aw_callV (n := 3) C hE (ci := 1) (q := (RJx4a65c, TJx4a65c, 3)) (k_add0Q B b mp_s (mp_k h3 (tag_ne h3 h1 rfl))) gJx4a65c_add_9ea2d_Jx4a65c_add_72be8 rfl ⟨rfl, rfl⟩ (by decide +kernel) ⟨by decide, by decide⟩ rfl rfl mp_s rfl (Nat.le_of_ble_eq_true rfl) dJx4a65c_add_9ea2d_20 ⟨by decide, by decide⟩ (fun v μ' hp => ?_)
  obtain ⟨rfl, o9, fo9, hm9⟩ := hp
  replace hm9 := hm9.symm
  subst hm9
  refine aw_st (st' := []) rfl ?_
  refine aw_iconst C (v := 1) (by decide) dJx4a65c_add_9ea2d_23 ?_
  refine aw_zret C hQe rfl ?_ (by omega) (by omega) dJx4a65c_add_9ea2d_24
  have f1 := (mp_none fo9)
  exact ⟨rfl, o9, f1.1, f1.2, mp_k mp_s f1.2, mp_s, fun x e hx hn => mp_k (mp_k (mp_k (mp_k (mp_k hx hn) (nn_ne f1.1 hx)) hn) (nn_ne f1.1 hx)) hn⟩
set_option maxRecDepth 100000 in
set_option maxHeartbeats 4000000 in
theorem k_add1Q (B : Base s0) {μ : mu} {a el : Nat} {mc : Int32} {n : Nat} {fe : Nat → Option Nat} (h1 : μ a = some (eAl mc el (nI n))) (h2 : μ el = some (eQ (g 5) 10 fe)) (hn : n < 10) {q : Nat → Int32} {u1 u2 u3 : Nat} {r : Nat} (h3 : μ r = some (eXq q u1 u2 u3)) : Ct l yJx4a65c_add_72be8 wsJx4a65c_add_72be8 (rmOf 3 1 10 120) s0 D (tyL g) [.ref a, .ref r, .ref el, .int (nI n)] μ 1 10 (fun v9 μ' => v9 = none ∧ μ' = mp (mp μ el (eQ (g 5) 10 (va_up fe n (some r)))) a (eAl mc el (nI n + 1))) := by
  refine Ct.of (cc := cJx4a65c_add_72be8) (own := RJx4a65c) (maxL := 4) (ret := none) (by decide) rfl rfl (Nat.le_of_ble_eq_true rfl) ?_
  intro p e s m args below meth c Q C hE hnm hQe
  have in_RJx4a65c : ∀ w ∈ u_ws RJx4a65c TJx4a65c 3, w ∈ wsJx4a65c_add_72be8 := by decide +kernel
  have f48 : FL wsJx4a65c_add_72be8 RJx4a65c 48 1 "java/util/ArrayList" RJx4a65c TJx4a65c 3 2 := ⟨in_RJx4a65c, rfl, by decide, by decide +kernel, Or.inl rfl⟩
  refine aw_iload_n C dJx4a65c_add_72be8_0 rfl ?_
  refine aw_aload_n C dJx4a65c_add_72be8_1 rfl ?_
  refine aw_alen C (t0 := 5) rfl h2 (v := 10) rfl dJx4a65c_add_72be8_2 ?_
  refine aw_icmp_ne C (tgt := 11) dJx4a65c_add_72be8_3 (by decide) (fun c_3 => ?_) (fun c_3 => ?_)
  · refine aw_aload_n C dJx4a65c_add_72be8_11 rfl ?_
    refine aw_iload_n C dJx4a65c_add_72be8_12 rfl ?_
    refine aw_aload_n C dJx4a65c_add_72be8_13 rfl ?_
    refine aw_aastE C (t0 := 5) (ci := 8) rfl (va_Nw.warmC hE.1 B.caXqO) rfl h2 h3 rfl ⟨hn, by decide⟩ dJx4a65c_add_72be8_14 ?_
    refine aw_aload_n C dJx4a65c_add_72be8_15 rfl ?_
    refine aw_iload_n C dJx4a65c_add_72be8_16 rfl ?_
    refine aw_iconst C (v := 1) (by decide) dJx4a65c_add_72be8_17 ?_
    refine aw_iadd C dJx4a65c_add_72be8_18 ?_
    refine aw_putE C f48 ftJA (ty := .int) (by decide +kernel) rfl rfl (mp_k h1 (tag_ne h1 h2 rfl)) (Nat.le_of_ble_eq_true rfl) (fs' := [.int mc, .ref el, .int ((nI n) + 1)]) rfl dJx4a65c_add_72be8_19 ?_
    refine aw_vret C hQe ?_ (by omega) (by omega) dJx4a65c_add_72be8_22
    exact ⟨rfl, rfl⟩
  · exact absurd ((nI_eq (b := 10) (by omega) (by decide)).mp c_3) (by omega)
set_option maxRecDepth 100000 in
set_option maxHeartbeats 4000000 in
theorem k_addNQ (B : Base s0) {μ : mu} {a el : Nat} {mc : Int32} {n : Nat} {fe : Nat → Option Nat} (h1 : μ a = some (eAl mc el (nI n))) (h2 : μ el = some (eQ (g 5) 10 fe)) (hn : n < 10) {q : Nat → Int32} {u1 u2 u3 : Nat} {r : Nat} (h3 : μ r = some (eXq q u1 u2 u3)) : Ct l yJx4a65c_add_9ea2d wsJx4a65c_add_9ea2d (rmOf 4 1 10 170) s0 D (tyL g) [.ref a, .ref r] μ 1 10 (fun v9 μ' => v9 = some (.int 1) ∧ μ' el = some (eQ (g 5) 10 (va_up fe n (some r))) ∧ μ' a = some (eAl (mc + 1) el (nI (n + 1))) ∧ ∀ x e, μ x = some e → x ≠ a → x ≠ el → μ' x = some e) := by
  refine Ct.of (cc := cJx4a65c_add_9ea2d) (own := RJx4a65c) (maxL := 2) (ret := (some .boolean)) (by decide) rfl rfl (Nat.le_of_ble_eq_true rfl) ?_
  intro p e s m args below meth c Q C hE hnm hQe
  have in_RJx4a65c : ∀ w ∈ u_ws RJx4a65c TJx4a65c 3, w ∈ wsJx4a65c_add_9ea2d := by decide +kernel
  have f63 : FL wsJx4a65c_add_9ea2d RJx4a65c 63 1 "java/util/ArrayList" RJx4a65c TJx4a65c 3 0 := ⟨in_RJx4a65c, rfl, by decide, by decide +kernel, Or.inr (by decide +kernel)⟩
  have f9 : FL wsJx4a65c_add_9ea2d RJx4a65c 9 1 "java/util/ArrayList" RJx4a65c TJx4a65c 3 1 := ⟨in_RJx4a65c, rfl, by decide, by decide +kernel, Or.inl rfl⟩
  have f48 : FL wsJx4a65c_add_9ea2d RJx4a65c 48 1 "java/util/ArrayList" RJx4a65c TJx4a65c 3 2 := ⟨in_RJx4a65c, rfl, by decide, by decide +kernel, Or.inl rfl⟩
  have nea : el ≠ a := tag_ne h2 h1 rfl
  refine aw_aload_n C dJx4a65c_add_9ea2d_0 rfl ?_
  refine aw_dup C rfl dJx4a65c_add_9ea2d_1 ?_
  refine aw_get C f63 h1 rfl dJx4a65c_add_9ea2d_2 ?_
  refine aw_iconst C (v := 1) (by decide) dJx4a65c_add_9ea2d_5 ?_
  refine aw_iadd C dJx4a65c_add_9ea2d_6 ?_
  refine aw_putE C f63 ftJA (ty := .int) (by decide +kernel) rfl rfl h1 (Nat.le_of_ble_eq_true rfl) (fs' := [.int (mc + 1), .ref el, .int (nI n)]) rfl dJx4a65c_add_9ea2d_7 ?_
  refine aw_aload_n C dJx4a65c_add_9ea2d_10 rfl ?_
  refine aw_aload_n C dJx4a65c_add_9ea2d_11 rfl ?_
  refine aw_aload_n C dJx4a65c_add_9ea2d_12 rfl ?_
  refine aw_get C f9 mp_s rfl dJx4a65c_add_9ea2d_13 ?_
  refine aw_aload_n C dJx4a65c_add_9ea2d_16 rfl ?_
  refine aw_get C f48 mp_s rfl dJx4a65c_add_9ea2d_17 ?_
  refine aw_callV (n := 3) C hE (ci := 1) (q := (RJx4a65c, TJx4a65c, 3)) (k_add1Q B mp_s (mp_k h2 (Ne.symm nea.symm)) hn (mp_k h3 (tag_ne h3 h1 rfl))) gJx4a65c_add_9ea2d_Jx4a65c_add_72be8 rfl ⟨rfl, rfl⟩ (by decide +kernel) ⟨by decide, by decide⟩ rfl rfl mp_s rfl (Nat.le_of_ble_eq_true rfl) dJx4a65c_add_9ea2d_20 ⟨by decide, by decide⟩ (fun v μ' hp => ?_)
  obtain ⟨rfl, hm9⟩ := hp
  replace hm9 := hm9.symm
  subst hm9
  refine aw_st (st' := []) rfl ?_
  refine aw_iconst C (v := 1) (by decide) dJx4a65c_add_9ea2d_23 ?_
  refine aw_zret C hQe rfl ?_ (by omega) (by omega) dJx4a65c_add_9ea2d_24
  exact ⟨rfl, mp_k mp_s nea, by rw [← nI_1]; exact mp_s, fun x e hx hn hn2 => mp_k (mp_k (mp_k hx hn) hn2) hn⟩
set_option maxRecDepth 100000 in
set_option maxHeartbeats 4000000 in
theorem k_Jx35411_init_45d68 (B : Base s0) {μ : mu} {o a el : Nat} {mc n : Int32} (h1 : μ a = some (eAl mc el n)) (h2 : μ o = some (.inr (0, [.int 0, .int 0, .int 0, .null]))) : Ct l yJx35411_init_45d68 wsJx35411_init_45d68 (rmOf 1 0 0 40) s0 D (tyL g) [.ref o, .ref a] μ 0 0 (fun v9 μ' => v9 = none ∧ μ' = mp μ o (eIt 0 (-1) mc a)) := by
  refine Ct.of (cc := cJx35411_init_45d68) (own := RJx35411) (maxL := 2) (ret := none) (by decide) rfl rfl (Nat.le_of_ble_eq_true rfl) ?_
  intro p e s m args below meth c Q C hE hnm hQe
  have in_RJx35411 : ∀ w ∈ u_ws RJx35411 TJx35411 4, w ∈ wsJx35411_init_45d68 := by decide +kernel
  have in_RJx4a65c : ∀ w ∈ u_ws RJx4a65c TJx4a65c 3, w ∈ wsJx35411_init_45d68 := by decide +kernel
  have f1 : FL wsJx35411_init_45d68 RJx35411 1 0 "java/util/ArrayList$Itr" RJx35411 TJx35411 4 3 := ⟨in_RJx35411, rfl, by decide, by decide +kernel, Or.inl rfl⟩
  have f13 : FL wsJx35411_init_45d68 RJx35411 13 0 "java/util/ArrayList$Itr" RJx35411 TJx35411 4 1 := ⟨in_RJx35411, rfl, by decide, by decide +kernel, Or.inl rfl⟩
  have f17 : FL wsJx35411_init_45d68 RJx35411 17 1 "java/util/ArrayList" RJx4a65c TJx4a65c 3 0 := ⟨in_RJx4a65c, rfl, by decide, by decide +kernel, Or.inr (by decide +kernel)⟩
  have f22 : FL wsJx35411_init_45d68 RJx35411 22 0 "java/util/ArrayList$Itr" RJx35411 TJx35411 4 2 := ⟨in_RJx35411, rfl, by decide, by decide +kernel, Or.inl rfl⟩
  refine aw_aload_n C dJx35411_init_45d68_0 rfl ?_
  refine aw_aload_n C dJx35411_init_45d68_1 rfl ?_
  refine aw_putFE C f1 ftJI (ty := .object "java/util/ArrayList") (by decide +kernel) hnm rfl rfl h2 (Nat.le_of_ble_eq_true rfl) (fs' := [.int 0, .int 0, .int 0, .ref a]) rfl dJx35411_init_45d68_2 ?_
  refine aw_aload_n C dJx35411_init_45d68_5 rfl ?_
  refine aw_objInit C (index := 7) (by decide +kernel) (by decide +kernel) (by decide +kernel) (by decide) (by decide) dJx35411_init_45d68_6 ?_
  refine aw_aload_n C dJx35411_init_45d68_9 rfl ?_
  refine aw_iconst C (v := (-1)) (by decide) dJx35411_init_45d68_10 ?_
  refine aw_putE C f13 ftJI (ty := .int) (by decide +kernel) rfl rfl mp_s (Nat.le_of_ble_eq_true rfl) (fs' := [.int 0, .int (-1), .int 0, .ref a]) rfl dJx35411_init_45d68_11 ?_
  refine aw_mu mp_mp ?_
  refine aw_aload_n C dJx35411_init_45d68_14 rfl ?_
  refine aw_aload_n C dJx35411_init_45d68_15 rfl ?_
  refine aw_get C f1 mp_s rfl dJx35411_init_45d68_16 ?_
  refine aw_get C f17 (mp_k h1 (tag_ne h1 h2 rfl)) rfl dJx35411_init_45d68_19 ?_
  refine aw_putE C f22 ftJI (ty := .int) (by decide +kernel) rfl rfl mp_s (Nat.le_of_ble_eq_true rfl) (fs' := [.int 0, .int (-1), .int mc, .ref a]) rfl dJx35411_init_45d68_22 ?_
  refine aw_mu mp_mp ?_
  refine aw_vret C hQe ?_ (by omega) (by omega) dJx35411_init_45d68_25
  exact ⟨rfl, rfl⟩
set_option maxRecDepth 100000 in
set_option maxHeartbeats 4000000 in
theorem k_Jx4a65c_iterator_32c93 (B : Base s0) {μ : mu} {a el : Nat} {mc n : Int32} (h1 : μ a = some (eAl mc el n)) : Ct l yJx4a65c_iterator_32c93 wsJx4a65c_iterator_32c93 (rmOf 2 1 4 80) s0 D (tyL g) [.ref a] μ 1 4 (fun v9 μ' => ∃ o, v9 = some (.ref o) ∧ μ o = none ∧ μ' = mp μ o (eIt 0 (-1) mc a)) := by
  refine Ct.of (cc := cJx4a65c_iterator_32c93) (own := RJx4a65c) (maxL := 1) (ret := (some (.object "java/util/Iterator"))) (by decide) rfl rfl (Nat.le_of_ble_eq_true rfl) ?_
  intro p e s m args below meth c Q C hE hnm hQe
  have in_RJx35411 : ∀ w ∈ u_ws RJx35411 TJx35411 4, w ∈ wsJx4a65c_iterator_32c93 := by decide +kernel
  refine aw_new C (ci := 0) (fs := [.int 0, .int 0, .int 0, .null]) in_RJx35411 tyJx35411 ntJx35411.1 (by decide +kernel) (by decide +kernel) (by decide +kernel) rfl ntJx35411.2 (by decide) (by decide) dJx4a65c_iterator_32c93_0 (fun o1 zo1 fo1 => ?_)
  refine aw_dup C rfl dJx4a65c_iterator_32c93_3 ?_
  refine aw_aload_n C dJx4a65c_iterator_32c93_4 rfl ?_
  refine aw_callI (n := 1) C hE (k_Jx35411_init_45d68 B (mp_k h1 (nn_ne fo1 h1)) mp_s) ggJx4a65c_iterator_32c93_Jx35411_init_45d68 (by decide +kernel) (by decide +kernel) (by decide +kernel) rfl rfl ⟨rfl, rfl⟩ (by decide +kernel) ⟨by decide, by decide⟩ rfl rfl (Nat.le_of_ble_eq_true rfl) dJx4a65c_iterator_32c93_5 ⟨by decide, by decide⟩ (fun v μ' hp => ?_)
  obtain ⟨rfl, hm9⟩ := hp
  replace hm9 := hm9.symm
  subst hm9
  refine aw_st (st' := [.ref o1]) rfl ?_
  refine aw_mu mp_mp ?_
  refine aw_aret C (Or.inl ⟨_, rfl⟩) hQe ?_ (by omega) (by omega) dJx4a65c_iterator_32c93_8
  exact ⟨o1, rfl, fo1, rfl⟩
set_option maxRecDepth 100000 in
set_option maxHeartbeats 4000000 in
theorem k_Jx35411_hasNext_aae02 (B : Base s0) {μ : mu} {o a el : Nat} {mc la cu n : Int32} (h1 : μ a = some (eAl mc el n)) (h2 : μ o = some (eIt cu la mc a)) : Ct l yJx35411_hasNext_aae02 wsJx35411_hasNext_aae02 (rmOf 0 0 0 0) s0 D (tyL g) [.ref o] μ 0 0 (fun v9 μ' => v9 = some (.int (if cu = n then 0 else 1)) ∧ μ' = μ) := by
  refine Ct.of (cc := cJx35411_hasNext_aae02) (own := RJx35411) (maxL := 1) (ret := (some .boolean)) (by decide) rfl rfl (Nat.le_of_ble_eq_true rfl) ?_
  intro p e s m args below meth c Q C hE hnm hQe
  have in_RJx35411 : ∀ w ∈ u_ws RJx35411 TJx35411 4, w ∈ wsJx35411_hasNext_aae02 := by decide +kernel
  have in_RJx4a65c : ∀ w ∈ u_ws RJx4a65c TJx4a65c 3, w ∈ wsJx35411_hasNext_aae02 := by decide +kernel
  have f25 : FL wsJx35411_hasNext_aae02 RJx35411 25 0 "java/util/ArrayList$Itr" RJx35411 TJx35411 4 0 := ⟨in_RJx35411, rfl, by decide, by decide +kernel, Or.inl rfl⟩
  have f1 : FL wsJx35411_hasNext_aae02 RJx35411 1 0 "java/util/ArrayList$Itr" RJx35411 TJx35411 4 3 := ⟨in_RJx35411, rfl, by decide, by decide +kernel, Or.inl rfl⟩
  have f28 : FN s0 wsJx35411_hasNext_aae02 RJx35411 28 1 "java/util/ArrayList" RJx4a65c TJx4a65c 3 2 "java/util/ArrayList" := ⟨in_RJx4a65c, rfl, by decide, B.fnRJx35411_28, rfl⟩
  refine aw_aload_n C dJx35411_hasNext_aae02_0 rfl ?_
  refine aw_get C f25 h2 rfl dJx35411_hasNext_aae02_1 ?_
  refine aw_aload_n C dJx35411_hasNext_aae02_4 rfl ?_
  refine aw_get C f1 h2 rfl dJx35411_hasNext_aae02_5 ?_
  refine aw_getN C hE f28 h1 rfl dJx35411_hasNext_aae02_8 ?_
  refine aw_icmp_eq C (tgt := 18) dJx35411_hasNext_aae02_11 (by decide) (fun c_11 => ?_) (fun c_11 => ?_)
  · refine aw_iconst C (v := 0) (by decide) dJx35411_hasNext_aae02_18 ?_
    refine aw_zret C hQe rfl ?_ (by omega) (by omega) dJx35411_hasNext_aae02_19
    exact ⟨by rw [if_pos c_11], rfl⟩
  · refine aw_iconst C (v := 1) (by decide) dJx35411_hasNext_aae02_14 ?_
    refine aw_goto C (tgt := 19) dJx35411_hasNext_aae02_15 (by decide) ?_
    refine aw_zret C hQe rfl ?_ (by omega) (by omega) dJx35411_hasNext_aae02_19
    exact ⟨by rw [if_neg c_11], rfl⟩
set_option maxRecDepth 100000 in
set_option maxHeartbeats 4000000 in
theorem k_Jx35411_checkForComodification_da8c8 (B : Base s0) {μ : mu} {o a el : Nat} {mc la cu n : Int32} (h1 : μ a = some (eAl mc el n)) (h2 : μ o = some (eIt cu la mc a)) : Ct l yJx35411_checkForComodification_da8c8 wsJx35411_checkForComodification_da8c8 (rmOf 0 0 0 0) s0 D (tyL g) [.ref o] μ 0 0 (fun v9 μ' => v9 = none ∧ μ' = μ) := by
  refine Ct.of (cc := cJx35411_checkForComodification_da8c8) (own := RJx35411) (maxL := 1) (ret := none) (by decide) rfl rfl (Nat.le_of_ble_eq_true rfl) ?_
  intro p e s m args below meth c Q C hE hnm hQe
  have in_RJx35411 : ∀ w ∈ u_ws RJx35411 TJx35411 4, w ∈ wsJx35411_checkForComodification_da8c8 := by decide +kernel
  have in_RJx4a65c : ∀ w ∈ u_ws RJx4a65c TJx4a65c 3, w ∈ wsJx35411_checkForComodification_da8c8 := by decide +kernel
  have f1 : FL wsJx35411_checkForComodification_da8c8 RJx35411 1 0 "java/util/ArrayList$Itr" RJx35411 TJx35411 4 3 := ⟨in_RJx35411, rfl, by decide, by decide +kernel, Or.inl rfl⟩
  have f17 : FL wsJx35411_checkForComodification_da8c8 RJx35411 17 1 "java/util/ArrayList" RJx4a65c TJx4a65c 3 0 := ⟨in_RJx4a65c, rfl, by decide, by decide +kernel, Or.inr (by decide +kernel)⟩
  have f22 : FL wsJx35411_checkForComodification_da8c8 RJx35411 22 0 "java/util/ArrayList$Itr" RJx35411 TJx35411 4 2 := ⟨in_RJx35411, rfl, by decide, by decide +kernel, Or.inl rfl⟩
  refine aw_aload_n C dJx35411_checkForComodification_da8c8_0 rfl ?_
  refine aw_get C f1 h2 rfl dJx35411_checkForComodification_da8c8_1 ?_
  refine aw_get C f17 h1 rfl dJx35411_checkForComodification_da8c8_4 ?_
  refine aw_aload_n C dJx35411_checkForComodification_da8c8_7 rfl ?_
  refine aw_get C f22 h2 rfl dJx35411_checkForComodification_da8c8_8 ?_
  refine aw_icmp_eq C (tgt := 22) dJx35411_checkForComodification_da8c8_11 (by decide) (fun c_11 => ?_) (fun c_11 => ?_)
  · refine aw_vret C hQe ?_ (by omega) (by omega) dJx35411_checkForComodification_da8c8_22
    exact ⟨rfl, rfl⟩
  · exact absurd rfl c_11
set_option maxRecDepth 100000 in
set_option maxHeartbeats 4000000 in
theorem k_Jx35411_next_0502b (B : Base s0) {μ : mu} {o a el : Nat} {mc la : Int32} {i n w9 : Nat} {fe : Nat → Option Nat} (h1 : μ a = some (eAl mc el (nI n))) (h2 : μ o = some (eIt (nI i) la mc a)) (h3 : μ el = some (eQ (g 5) 10 fe)) (hi : i < n) (hn : n ≤ 10) (hf : fe i = some w9) : Ct l yJx35411_next_0502b wsJx35411_next_0502b (rmOf 1 0 0 40) s0 D (tyL g) [.ref o] μ 0 0 (fun v9 μ' => v9 = some (.ref w9) ∧ μ' = mp μ o (eIt (nI (i + 1)) (nI i) mc a)) := by
  refine Ct.of (cc := cJx35411_next_0502b) (own := RJx35411) (maxL := 3) (ret := (some (.object "java/lang/Object"))) (by decide) rfl rfl (Nat.le_of_ble_eq_true rfl) ?_
  intro p e s m args below meth c Q C hE hnm hQe
  have in_RJx35411 : ∀ w ∈ u_ws RJx35411 TJx35411 4, w ∈ wsJx35411_next_0502b := by decide +kernel
  have in_RJx4a65c : ∀ w ∈ u_ws RJx4a65c TJx4a65c 3, w ∈ wsJx35411_next_0502b := by decide +kernel
  have f25 : FL wsJx35411_next_0502b RJx35411 25 0 "java/util/ArrayList$Itr" RJx35411 TJx35411 4 0 := ⟨in_RJx35411, rfl, by decide, by decide +kernel, Or.inl rfl⟩
  have f1 : FL wsJx35411_next_0502b RJx35411 1 0 "java/util/ArrayList$Itr" RJx35411 TJx35411 4 3 := ⟨in_RJx35411, rfl, by decide, by decide +kernel, Or.inl rfl⟩
  have f28 : FN s0 wsJx35411_next_0502b RJx35411 28 1 "java/util/ArrayList" RJx4a65c TJx4a65c 3 2 "java/util/ArrayList" := ⟨in_RJx4a65c, rfl, by decide, B.fnRJx35411_28, rfl⟩
  have f37 : FL wsJx35411_next_0502b RJx35411 37 1 "java/util/ArrayList" RJx4a65c TJx4a65c 3 1 := ⟨in_RJx4a65c, rfl, by decide, by decide +kernel, Or.inl rfl⟩
  have f13 : FL wsJx35411_next_0502b RJx35411 13 0 "java/util/ArrayList$Itr" RJx35411 TJx35411 4 1 := ⟨in_RJx35411, rfl, by decide, by decide +kernel, Or.inl rfl⟩
  refine aw_aload_n C dJx35411_next_0502b_0 rfl ?_
  refine aw_callV (n := 0) C hE (ci := 0) (q := (RJx35411, TJx35411, 4)) (k_Jx35411_checkForComodification_da8c8 B h1 h2) gJx35411_next_0502b_Jx35411_checkForComodification_da8c8 rfl ⟨rfl, rfl⟩ (by decide +kernel) ⟨by decide, by decide⟩ rfl rfl h2 rfl (Nat.le_of_ble_eq_true rfl) dJx35411_next_0502b_1 ⟨by decide, by decide⟩ (fun v μ' hp => ?_)
  obtain ⟨rfl, hm9⟩ := hp
  replace hm9 := hm9.symm
  subst hm9
  refine aw_st (st' := []) rfl ?_
  refine aw_aload_n C dJx35411_next_0502b_4 rfl ?_
  refine aw_get C f25 h2 rfl dJx35411_next_0502b_5 ?_
  refine aw_istore_n C dJx35411_next_0502b_8 (by decide) ?_
  refine aw_iload_n C dJx35411_next_0502b_9 rfl ?_
  refine aw_aload_n C dJx35411_next_0502b_10 rfl ?_
  refine aw_get C f1 h2 rfl dJx35411_next_0502b_11 ?_
  refine aw_getN C hE f28 h1 rfl dJx35411_next_0502b_14 ?_
  refine aw_icmp_lt C (tgt := 28) dJx35411_next_0502b_17 (by decide) (fun c_17 => ?_) (fun c_17 => ?_)
  · refine aw_aload_n C dJx35411_next_0502b_28 rfl ?_
    refine aw_get C f1 h2 rfl dJx35411_next_0502b_29 ?_
    refine aw_get C f37 h1 rfl dJx35411_next_0502b_32 ?_
    refine aw_astore_n C dJx35411_next_0502b_35 (by decide) ?_
    refine aw_iload_n C dJx35411_next_0502b_36 rfl ?_
    refine aw_aload_n C dJx35411_next_0502b_37 rfl ?_
    refine aw_alen C (t0 := 5) rfl h3 (v := 10) rfl dJx35411_next_0502b_38 ?_
    refine aw_icmp_lt C (tgt := 50) dJx35411_next_0502b_39 (by decide) (fun c_39 => ?_) (fun c_39 => ?_)
    · refine aw_aload_n C dJx35411_next_0502b_50 rfl ?_
      refine aw_iload_n C dJx35411_next_0502b_51 rfl ?_
      refine aw_iconst C (v := 1) (by decide) dJx35411_next_0502b_52 ?_
      refine aw_iadd C dJx35411_next_0502b_53 ?_
      refine aw_putE C f25 ftJI (ty := .int) (by decide +kernel) rfl rfl h2 (Nat.le_of_ble_eq_true rfl) (fs' := [.int ((nI i) + 1), .int la, .int mc, .ref a]) rfl dJx35411_next_0502b_54 ?_
      refine aw_aload_n C dJx35411_next_0502b_57 rfl ?_
      refine aw_aload_n C dJx35411_next_0502b_58 rfl ?_
      refine aw_iload_n C dJx35411_next_0502b_59 rfl ?_
      refine aw_dup_x1 C rfl rfl dJx35411_next_0502b_60 ?_
      refine aw_putE C f13 ftJI (ty := .int) (by decide +kernel) rfl rfl mp_s (Nat.le_of_ble_eq_true rfl) (fs' := [.int ((nI i) + 1), .int (nI i), .int mc, .ref a]) rfl dJx35411_next_0502b_61 ?_
      refine aw_mu mp_mp ?_
      refine aw_aaldE C (t0 := 5) rfl (mp_k h3 (tag_ne h3 h2 rfl)) rfl ⟨by omega, by decide⟩ hf dJx35411_next_0502b_64 ?_
      refine aw_aret C (Or.inl ⟨_, rfl⟩) hQe ?_ (by omega) (by omega) dJx35411_next_0502b_65
      exact ⟨rfl, by rw [← nI_1]⟩
    · exact absurd (nI_lt (b := 10) (by omega) (by decide)) c_39
  · exact absurd (nI_lt hi (by omega)) c_17
end KT
