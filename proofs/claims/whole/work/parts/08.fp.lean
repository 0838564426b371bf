/-! ===== doubles: magnitudes by the exponent field; lower bounds in units of 2^-20; a flight's ticks ===== -/
abbrev V64 (x : UInt64) : FP.Core.Datum := FP.Core.val64 x
abbrev ZV (x : UInt64) : Int := FP.Core.zval FP.Core.b64 (FP.Core.val64 x)
abbrev ZM (x : UInt64) : Nat := FP.Core.zmag FP.Core.b64 (FP.Core.val64 x)
abbrev dk (x : UInt64) : Int := FP.Core.dkey x
/-- less than 2^(K - 1023) -/
def Eb (K : Nat) (x : UInt64) : Prop := x.toNat % 2 ^ 63 < K * 2 ^ 52
def Nn (x : UInt64) : Prop := FP.Core.val64 x ≠ .nan
theorem Eb.up {K L : Nat} {x : UInt64} (h : Eb K x) (hK : K ≤ L) : Eb L x := Nat.lt_of_lt_of_le h (Nat.mul_le_mul_right _ hK)
theorem Eb.fin {K : Nat} {x : UInt64} (h : Eb K x) (hK : K ≤ 2047) : FP.Core.DFin x := FP.Core.fin_of_lt h hK
theorem Eb.nn {K : Nat} {x : UInt64} (h : Eb K x) (hK : K ≤ 2047) : Nn x := by
  obtain ⟨s, c, q, e⟩ := h.fin hK
  unfold Nn
  rw [e]
  exact FP.Core.Datum.noConfusion
theorem n64_of {x : UInt64} (h : Nn x) : vf_n64 x := by
  have h1 := (FP.Core.ne_nan x).mp h
  unfold vf_n64
  rw [UInt64.le_iff_toNat_le, UInt64.toNat_and]
  have e : (9223372036854775807 : UInt64).toNat = 2 ^ 63 - 1 := by decide
  rw [show ((0x7fffffffffffffff : UInt64)).toNat = 2 ^ 63 - 1 from by decide, Nat.and_two_pow_sub_one_eq_mod]
  exact h1
theorem Eb.n {K : Nat} {x : UInt64} (h : Eb K x) (hK : K ≤ 2047) : vf_n64 x := n64_of (h.nn hK)
theorem Eb.add {K : Nat} {a b : UInt64} (ha : Eb K a) (hb : Eb K b) (hK : K ≤ 2047) : Eb (K + 2) (FP.dadd a b) := FP.Core.dadd_mag ha hb hK
theorem Eb.sub {K : Nat} {a b : UInt64} (ha : Eb K a) (hb : Eb K b) (hK : K ≤ 2047) : Eb (K + 2) (FP.dsub a b) := FP.Core.dsub_mag ha hb hK
theorem Eb.mul {K L : Nat} {a b : UInt64} (ha : Eb K a) (hb : Eb L b) (hK : K ≤ 2047) (hL : L ≤ 2047) : Eb (K + L - 1025 + 3) (FP.dmul a b) := FP.Core.dmul_mag ha hb hK hL
theorem Eb.div {K L : Nat} {a b : UInt64} (ha : Eb K a) (hb : L * 2 ^ 52 ≤ b.toNat % 2 ^ 63) (hb2 : Eb 2047 b) (hK : K ≤ 2047) (hL : 1 ≤ L) : Eb (K + 1021 - L + 3) (FP.ddiv a b) := FP.Core.ddiv_mag ha hb hb2 hK hL
theorem Eb.i2d (v : Int32) : Eb 1056 (FP.i2d v) := FP.Core.i2d_mag v
/-- what a comparison pushes, by keys -/
theorem cv_key {x y : UInt64} (hx : Nn x) (hy : Nn y) (op : CmpOp) : Op.cmpValue (FP.dcmp x y) op = if dk x < dk y then -1 else if dk x = dk y then 0 else 1 := by
  have h : FP.dcmp x y = some (compare (dk x) (dk y)) := FP.Core.dcmp_key hx hy
  rw [h, FP.Core.compare_ite]
  by_cases h1 : dk x < dk y
  · rw [if_pos h1, if_pos h1]; rfl
  · rw [if_neg h1, if_neg h1]
    by_cases h2 : dk x = dk y
    · rw [if_pos h2, if_pos h2]; rfl
    · rw [if_neg h2, if_neg h2]; rfl
theorem kv_ge0 {x y : UInt64} (hx : Nn x) (hy : Nn y) (op : CmpOp) : 0 ≤ Op.cmpValue (FP.dcmp x y) op ↔ dk y ≤ dk x := by
  rw [cv_key hx hy]
  by_cases h1 : dk x < dk y
  · rw [if_pos h1]; exact ⟨fun h => absurd h (by decide), fun h => by omega⟩
  · rw [if_neg h1]
    by_cases h2 : dk x = dk y
    · rw [if_pos h2]; exact ⟨fun _ => by omega, fun _ => by decide⟩
    · rw [if_neg h2]; exact ⟨fun _ => by omega, fun _ => by decide⟩
theorem kv_lt0 {x y : UInt64} (hx : Nn x) (hy : Nn y) (op : CmpOp) : Op.cmpValue (FP.dcmp x y) op < 0 ↔ dk x < dk y := by
  rw [cv_key hx hy]
  by_cases h1 : dk x < dk y
  · rw [if_pos h1]; exact ⟨fun _ => h1, fun _ => by decide⟩
  · rw [if_neg h1]
    by_cases h2 : dk x = dk y
    · rw [if_pos h2]; exact ⟨fun h => absurd h (by decide), fun h => by omega⟩
    · rw [if_neg h2]; exact ⟨fun h => absurd h (by decide), fun h => by omega⟩
theorem kv_gt0 {x y : UInt64} (hx : Nn x) (hy : Nn y) (op : CmpOp) : 0 < Op.cmpValue (FP.dcmp x y) op ↔ dk y < dk x := by
  rw [cv_key hx hy]
  by_cases h1 : dk x < dk y
  · rw [if_pos h1]; exact ⟨fun h => absurd h (by decide), fun h => by omega⟩
  · rw [if_neg h1]
    by_cases h2 : dk x = dk y
    · rw [if_pos h2]; exact ⟨fun h => absurd h (by decide), fun h => by omega⟩
    · rw [if_neg h2]; exact ⟨fun _ => by omega, fun _ => by decide⟩
theorem kv_le0 {x y : UInt64} (hx : Nn x) (hy : Nn y) (op : CmpOp) : Op.cmpValue (FP.dcmp x y) op ≤ 0 ↔ dk x ≤ dk y := by
  rw [cv_key hx hy]
  by_cases h1 : dk x < dk y
  · rw [if_pos h1]; exact ⟨fun _ => by omega, fun _ => by decide⟩
  · rw [if_neg h1]
    by_cases h2 : dk x = dk y
    · rw [if_pos h2]; exact ⟨fun _ => by omega, fun _ => by decide⟩
    · rw [if_neg h2]; exact ⟨fun h => absurd h (by decide), fun h => by omega⟩
theorem kv_eq0 {x y : UInt64} (hx : Nn x) (hy : Nn y) (op : CmpOp) : Op.cmpValue (FP.dcmp x y) op = 0 ↔ dk x = dk y := by
  rw [cv_key hx hy]
  by_cases h1 : dk x < dk y
  · rw [if_pos h1]; exact ⟨fun h => absurd h (by decide), fun h => by omega⟩
  · rw [if_neg h1]
    by_cases h2 : dk x = dk y
    · rw [if_pos h2]; exact ⟨fun _ => h2, fun _ => rfl⟩
    · rw [if_neg h2]; exact ⟨fun h => absurd h (by decide), fun h => absurd h h2⟩
/-- at least k / 2^20 -/
def Lw (k : Nat) (x : UInt64) : Prop := FP.Core.DFin x ∧ (k : Int) * (2 ^ 1054 : Nat) ≤ ZV x
theorem Lw.nn {k : Nat} {x : UInt64} (h : Lw k x) : Nn x := by
  obtain ⟨⟨s, c, q, e⟩, -⟩ := h
  unfold Nn
  rw [e]
  exact FP.Core.Datum.noConfusion
/-- the number k / 2^20 itself -/
theorem mk20 {k : Nat} (hk : k < 2 ^ 53) : ∃ V : FP.Core.Datum, FP.Core.fits FP.Core.b64 V ∧ V ≠ .nan ∧ FP.Core.zval FP.Core.b64 V = (k : Int) * (2 ^ 1054 : Nat) := by
  obtain ⟨c', q', h1, h2⟩ := FP.Core.round_exact FP.Core.good_b64 false (c := k) (q := -20) hk (by decide +kernel) (by decide +kernel)
  refine ⟨FP.Core.round FP.Core.b64 (.fin false k (-20)), FP.Core.round_fits FP.Core.good_b64 _, by rw [h1]; exact FP.Core.Datum.noConfusion, ?_⟩
  rw [h1]
  show FP.Core.signed false (FP.Core.inUnits c' q' FP.Core.b64.qmin) = _
  rw [h2]
  show ((FP.Core.inUnits k (-20) FP.Core.b64.qmin : Nat) : Int) = _
  unfold FP.Core.inUnits
  rw [FP.Core.qmin_b64, show ((-20 : Int) - -1074).toNat = 1054 from rfl]
  rw [Int.natCast_mul]
theorem Lw.add {k j K : Nat} {x y : UInt64} (hx : Lw k x) (hy : Lw j y) (hk : k + j < 2 ^ 53) (he : Eb K (FP.dadd x y)) (hK : K ≤ 2047) : Lw (k + j) (FP.dadd x y) := by
  refine ⟨he.fin hK, ?_⟩
  obtain ⟨V, v1, v2, v3⟩ := mk20 hk
  have h := FP.Core.sum_ge FP.Core.good_b64 hx.1 hy.1 (FP.Core.val64_fits x) (FP.Core.val64_fits y) v1 v2 (by
    rw [v3]
    have h1 := hx.2
    have h2 := hy.2
    unfold ZV at h1 h2
    rw [Int.natCast_add, Int.add_mul]
    omega)
  rw [v3] at h
  unfold ZV
  show _ ≤ FP.Core.zval FP.Core.b64 (FP.Core.val64 (FP.Core.dadd x y))
  rw [FP.Core.val64_dadd]
  exact h
/-- division by 2^j is exact, far from the least numbers -/
theorem div_pow {x d : UInt64} {j k : Nat} (hk : 1 ≤ k) (hx : Lw k x) (hd : FP.Core.val64 d = .fin false (2 ^ 52) ((j : Int) - 52)) (hj : j ≤ 20) : FP.Core.DFin (FP.ddiv x d) ∧ ZV (FP.ddiv x d) * (2 ^ j : Nat) = ZV x ∧ 0 ≤ ZV (FP.ddiv x d) := by
  obtain ⟨⟨s, c, q, e⟩, hz⟩ := hx
  have hf := FP.Core.val64_fits x
  rw [e] at hf
  have hzm : ZV x = FP.Core.signed s (FP.Core.inUnits c q FP.Core.b64.qmin) := by
    unfold ZV
    rw [e]
    rfl
  have hpos : (0 : Int) < (k : Int) * (2 ^ 1054 : Nat) := Int.mul_pos (by omega) (by exact_mod_cast Nat.two_pow_pos 1054)
  have hs : s = false := by
    cases s with
    | false => rfl
    | true =>
      exfalso
      rw [hzm] at hz
      have : FP.Core.signed true (FP.Core.inUnits c q FP.Core.b64.qmin) = -((FP.Core.inUnits c q FP.Core.b64.qmin : Nat) : Int) := rfl
      omega
  subst hs
  have hz2 : 2 ^ 1054 ≤ c * 2 ^ (q - FP.Core.b64.qmin).toNat := by
    rw [hzm] at hz
    have h1 : FP.Core.signed false (FP.Core.inUnits c q FP.Core.b64.qmin) = ((c * 2 ^ (q - FP.Core.b64.qmin).toNat : Nat) : Int) := rfl
    rw [h1] at hz
    have h2 : (1 : Int) * (2 ^ 1054 : Nat) ≤ (k : Int) * (2 ^ 1054 : Nat) := Int.mul_le_mul_of_nonneg_right (by omega) (by exact_mod_cast Nat.zero_le _)
    rw [Int.one_mul] at h2
    exact_mod_cast Int.le_trans h2 hz
  have hq : 900 ≤ q - FP.Core.b64.qmin := by
    by_cases h : 900 ≤ q - FP.Core.b64.qmin
    · exact h
    · exfalso
      have h1 : c < 2 ^ 53 := hf.1
      have h2 : 2 ^ (q - FP.Core.b64.qmin).toNat ≤ 2 ^ 900 := Nat.pow_le_pow_right (by decide) (by omega)
      have h3 : c * 2 ^ (q - FP.Core.b64.qmin).toNat ≤ 2 ^ 53 * 2 ^ 900 := Nat.mul_le_mul (Nat.le_of_lt h1) h2
      have h4 : (2 : Nat) ^ 53 * 2 ^ 900 < 2 ^ 1054 := by rw [← Nat.pow_add]; exact Nat.pow_lt_pow_right (by decide) (by decide)
      omega
  have ht : 2 ^ 52 ≤ c := by
    rcases hf.2.2.2 with h | h
    · exfalso; omega
    · exact h
  have hfit : FP.Core.fits FP.Core.b64 (.fin false c (q - j)) := ⟨hf.1, by omega, by have := hf.2.2.1; omega, Or.inr ht⟩
  have hv : FP.Core.val64 (FP.ddiv x d) = .fin false c (q - j) := by
    show FP.Core.val64 (FP.Core.ddiv x d) = _
    rw [FP.Core.val64_ddiv, e, hd]
    show FP.Core.roundRatio FP.Core.b64 (false != false) c (2 ^ 52) (q - ((j : Int) - 52)) = _
    refine FP.Core.roundRatio_exact FP.Core.good_b64 (Nat.two_pow_pos 52) hfit ?_
    rw [show (q - ((j : Int) - 52) - (q - (j : Int))).toNat = 52 by omega, show (q - (j : Int) - (q - ((j : Int) - 52))).toNat = 0 by omega]
    rw [Nat.pow_zero, Nat.mul_one]
  refine ⟨⟨_, _, _, hv⟩, ?_, ?_⟩
  · unfold ZV
    rw [hv, e]
    show ((c * 2 ^ (q - j - FP.Core.b64.qmin).toNat : Nat) : Int) * _ = ((c * 2 ^ (q - FP.Core.b64.qmin).toNat : Nat) : Int)
    rw [← Int.natCast_mul, Nat.mul_assoc, ← Nat.pow_add, show (q - (j : Int) - FP.Core.b64.qmin).toNat + j = (q - FP.Core.b64.qmin).toNat by omega]
  · unfold ZV
    rw [hv]
    show (0 : Int) ≤ ((_ : Nat) : Int)
    omega
abbrev d16 : UInt64 := 4625196817309499392
abbrev d256 : UInt64 := 4643211215818981376
theorem d16_v : FP.Core.val64 d16 = .fin false (2 ^ 52) (((4 : Nat) : Int) - 52) := by decide +kernel
theorem d256_v : FP.Core.val64 d256 = .fin false (2 ^ 52) (((8 : Nat) : Int) - 52) := by decide +kernel
theorem Lw.div16 {k : Nat} {x : UInt64} (hk : 1 ≤ k) (hx : Lw k x) : Lw (k / 16) (FP.ddiv x d16) := by
  obtain ⟨h1, h2, -⟩ := div_pow hk hx d16_v (by decide)
  refine ⟨h1, ?_⟩
  have h3 := hx.2
  rw [← h2] at h3
  have h4 : ((k / 16 : Nat) : Int) * (2 ^ 1054 : Nat) * (2 ^ 4 : Nat) ≤ (k : Int) * (2 ^ 1054 : Nat) := by
    rw [Int.mul_right_comm]
    refine Int.mul_le_mul_of_nonneg_right ?_ (by exact_mod_cast Nat.zero_le _)
    have : ((2 ^ 4 : Nat) : Int) = 16 := rfl
    rw [this]
    omega
  have h5 := Int.le_trans h4 h3
  exact Int.le_of_mul_le_mul_right h5 (by decide)
theorem Lw.decay {k K : Nat} {x : UInt64} (hk : 1 ≤ k) (hx : Lw k x) (hk2 : k < 2 ^ 53) (he : Eb K (FP.dsub x (FP.ddiv x d256))) (hK : K ≤ 2047) : Lw (k * 255 / 256) (FP.dsub x (FP.ddiv x d256)) := by
  obtain ⟨h1, h2, h0⟩ := div_pow hk hx d256_v (by decide)
  refine ⟨he.fin hK, ?_⟩
  obtain ⟨V, v1, v2, v3⟩ := mk20 (k := k * 255 / 256) (by omega)
  have hneg : ∃ s c q, FP.Core.negate (FP.Core.val64 (FP.ddiv x d256)) = .fin s c q := by
    obtain ⟨s, c, q, e⟩ := h1
    exact ⟨!s, c, q, by rw [e]; rfl⟩
  have h := FP.Core.sum_ge FP.Core.good_b64 hx.1 hneg (FP.Core.val64_fits x) (FP.Core.negate_fits (FP.Core.val64_fits _)) v1 v2 (by
    rw [v3, FP.Core.zval_negate]
    have h3 := hx.2
    unfold ZV at h2 h3
    generalize FP.Core.zval FP.Core.b64 (FP.Core.val64 x) = a at h2 h3 ⊢
    generalize FP.Core.zval FP.Core.b64 (FP.Core.val64 (FP.ddiv x d256)) = b at h2 ⊢
    have h4 : ((k * 255 / 256 : Nat) : Int) * (2 ^ 1054 : Nat) * 256 ≤ (k : Int) * (2 ^ 1054 : Nat) * 255 := by
      rw [Int.mul_right_comm, Int.mul_right_comm (k : Int)]
      refine Int.mul_le_mul_of_nonneg_right ?_ (by exact_mod_cast Nat.zero_le _)
      omega
    have h5 : ((2 ^ 8 : Nat) : Int) = 256 := rfl
    rw [h5] at h2
    generalize (k : Int) * ((2 ^ 1054 : Nat) : Int) = kk at h3 h4
    generalize ((k * 255 / 256 : Nat) : Int) * ((2 ^ 1054 : Nat) : Int) = jj at h4 ⊢
    omega)
  rw [v3] at h
  unfold ZV
  show _ ≤ FP.Core.zval FP.Core.b64 (FP.Core.val64 (FP.Core.dsub x (FP.ddiv x d256)))
  rw [FP.Core.val64_dsub]
  exact h
/-- a flight: x, v, h, f, u, s -/
abbrev Tk : Type := UInt64 × UInt64 × UInt64 × UInt64 × UInt64 × UInt64
abbrev d64 : UInt64 := 4634204016564240384
abbrev d0625 : UInt64 := 4603804719079489536
def tk (w : Int32) (t : Tk) : Tk := (FP.dadd t.1 (FP.ddiv t.2.2.2.1 d16), FP.dadd t.2.1 (FP.ddiv t.2.2.2.2.1 d16), FP.dadd t.2.2.1 (FP.ddiv t.2.2.2.2.2 d16), FP.dsub t.2.2.2.1 (FP.ddiv t.2.2.2.1 d256), FP.dsub t.2.2.2.2.1 d0625, FP.dadd t.2.2.2.2.2 (FP.ddiv (FP.i2d w) d64))
def TkB (K : Nat) (t : Tk) : Prop := Eb K t.1 ∧ Eb K t.2.1 ∧ Eb K t.2.2.1 ∧ Eb K t.2.2.2.1 ∧ Eb K t.2.2.2.2.1 ∧ Eb K t.2.2.2.2.2
theorem Eb.d16 {K : Nat} {x : UInt64} (h : Eb K x) (h1 : 1027 ≤ K) (hK : K ≤ 2047) : Eb K (FP.ddiv x d16) := (Eb.div (L := 1027) h (by decide +kernel) (by unfold Eb; decide +kernel) hK (by decide)).up (by omega)
theorem Eb.d256 {K : Nat} {x : UInt64} (h : Eb K x) (h1 : 1031 ≤ K) (hK : K ≤ 2047) : Eb K (FP.ddiv x d256) := (Eb.div (L := 1031) h (by decide +kernel) (by unfold Eb; decide +kernel) hK (by decide)).up (by omega)
theorem Eb.d64 {K : Nat} {x : UInt64} (h : Eb K x) (h1 : 1029 ≤ K) (hK : K ≤ 2047) : Eb K (FP.ddiv x d64) := (Eb.div (L := 1029) h (by decide +kernel) (by unfold Eb; decide +kernel) hK (by decide)).up (by omega)
theorem Eb.c0625 {K : Nat} (h : 1023 ≤ K) : Eb K d0625 := Eb.up (K := 1023) (by unfold Eb; decide +kernel) h
theorem tk_B {K : Nat} {t : Tk} (w : Int32) (h : TkB K t) (h1 : 1110 ≤ K) (hK : K ≤ 2045) : TkB (K + 2) (tk w t) := by
  obtain ⟨b1, b2, b3, b4, b5, b6⟩ := h
  have i1 : K ≤ 2047 := by omega
  exact ⟨b1.add (b4.d16 (by omega) i1) i1, b2.add (b5.d16 (by omega) i1) i1, b3.add (b6.d16 (by omega) i1) i1, b4.sub (b4.d256 (by omega) i1) i1, b5.sub (Eb.c0625 (by omega)) i1, b6.add (((Eb.i2d w).up (by omega)).d64 (by omega) i1) i1⟩
def kF : Nat → Nat
  | 0 => 13762560
  | n + 1 => kF n * 255 / 256
def kX : Nat → Nat
  | 0 => 0
  | n + 1 => kX n + kF n / 16
theorem kF_ok : ∀ n, n < 150 → 1 ≤ kF n ∧ kF n < 2 ^ 53 ∧ kX n + kF n / 16 < 2 ^ 53 := by decide +kernel
theorem kX_end : 90 * 2 ^ 20 ≤ kX 146 := by decide +kernel
def TkI (n : Nat) (t : Tk) : Prop := TkB (1110 + 2 * n) t ∧ Lw (kF n) t.2.2.2.1 ∧ Lw (kX n) t.1
theorem tk_I {n : Nat} {t : Tk} (w : Int32) (h : TkI n t) (hn : n < 150) : TkI (n + 1) (tk w t) := by
  obtain ⟨hB, hF, hX⟩ := h
  obtain ⟨k1, k2, k3⟩ := kF_ok n hn
  have hB' := tk_B w hB (by omega) (by omega)
  refine ⟨by rw [show 1110 + 2 * (n + 1) = 1110 + 2 * n + 2 by omega]; exact hB', ?_, ?_⟩
  · exact hF.decay k1 k2 hB'.2.2.2.1 (by omega)
  · exact hX.add (hF.div16 k1) k3 hB'.1 (by omega)
/-- the ticks of a flight to d, k of them at most -/
def flN (w d : Int32) : Nat → Tk → Tk
  | 0, t => t
  | k + 1, t => if dk t.1 < dk (FP.i2d d) then flN w d k (tk w t) else t
theorem flN_go {w d : Int32} {k : Nat} {t : Tk} (h : dk t.1 < dk (FP.i2d d)) : flN w d (k + 1) t = flN w d k (tk w t) := if_pos h
theorem flN_end {w d : Int32} {k : Nat} {t : Tk} (h : ¬ dk t.1 < dk (FP.i2d d)) : flN w d k t = t := by
  cases k with
  | zero => rfl
  | succ k => exact if_neg h
theorem i2d_nn (d : Int32) : Nn (FP.i2d d) := (Eb.i2d d).nn (by decide)
theorem tk_far {t : Tk} {d : Int32} (h : Lw (kX 146) t.1) (hd : d.toInt ≤ 90) : ¬ dk t.1 < dk (FP.i2d d) := by
  intro hlt
  have h1 : FP.dcmp t.1 (FP.i2d d) = some .lt := (FP.Core.dcmp_lt_key h.nn (i2d_nn d)).mpr hlt
  obtain ⟨-, -, h2⟩ := FP.Core.dcmp_lt.mp h1
  have h3 := h.2
  have h4 : ZV (FP.i2d d) = d.toInt * (2 ^ 1074 : Nat) := FP.Core.DInt_zval (FP.Core.i2d_int d)
  unfold ZV at h3 h4
  rw [h4] at h2
  have h5 : ((90 * 2 ^ 20 : Nat) : Int) * (2 ^ 1054 : Nat) ≤ ((kX 146 : Nat) : Int) * (2 ^ 1054 : Nat) := Int.mul_le_mul_of_nonneg_right (by exact_mod_cast kX_end) (by exact_mod_cast Nat.zero_le _)
  have h6 : ((90 * 2 ^ 20 : Nat) : Int) * (2 ^ 1054 : Nat) = 90 * (2 ^ 1074 : Nat) := by
    rw [Int.natCast_mul, Int.mul_assoc, ← Int.natCast_mul, ← Nat.pow_add]
    rfl
  rw [h6] at h5
  have h7 : d.toInt * (2 ^ 1074 : Nat) ≤ 90 * (2 ^ 1074 : Nat) := Int.mul_le_mul_of_nonneg_right hd (by exact_mod_cast Nat.zero_le _)
  omega
/-- one more tick: not more than 146 of them -/
theorem tk_lt {n : Nat} {t : Tk} {d : Int32} (h : TkI n t) (hn : n ≤ 146) (hd : d.toInt ≤ 90) (hlt : dk t.1 < dk (FP.i2d d)) : n < 146 := by
  rcases Nat.lt_or_ge n 146 with q | q
  · exact q
  · have : n = 146 := by omega
    subst this
    exact absurd hlt (tk_far h.2.2 hd)
theorem fl_step {w d : Int32} {n : Nat} {t R : Tk} (h : TkI n t) (hn : n ≤ 146) (hd : d.toInt ≤ 90) (hR : flN w d (150 - n) t = R) (hlt : dk t.1 < dk (FP.i2d d)) : TkI (n + 1) (tk w t) ∧ n + 1 ≤ 146 ∧ flN w d (150 - (n + 1)) (tk w t) = R := by
  have h1 := tk_lt h hn hd hlt
  refine ⟨tk_I w h (by omega), by omega, ?_⟩
  rw [← hR, show 150 - n = (150 - (n + 1)) + 1 by omega, flN_go hlt]
theorem TkI.nx {n : Nat} {t : Tk} (h : TkI n t) (hn : n ≤ 146) : Nn t.1 := h.1.1.nn (by omega)
theorem TkI.ev {n : Nat} {t : Tk} (h : TkI n t) (hn : n ≤ 146) : Eb 1410 t.2.1 ∧ Eb 1410 t.2.2.1 := ⟨h.1.2.1.up (by omega), h.1.2.2.1.up (by omega)⟩
theorem flN_I {w d : Int32} (hd : d.toInt ≤ 90) : ∀ (j n : Nat) (t : Tk), n + j = 146 → TkI n t → Eb 1410 (flN w d (150 - n) t).2.1 ∧ Eb 1410 (flN w d (150 - n) t).2.2.1 := by
  intro j
  induction j with
  | zero =>
    intro n t hn h
    have : n = 146 := by omega
    subst this
    rw [flN_end (tk_far h.2.2 hd)]
    exact h.ev (Nat.le_refl _)
  | succ j ih =>
    intro n t hn h
    by_cases hlt : dk t.1 < dk (FP.i2d d)
    · obtain ⟨h1, h2, h3⟩ := fl_step h (by omega) hd (R := flN w d (150 - n) t) rfl hlt
      rw [← h3]
      exact ih (n + 1) _ (by omega) h1
    · rw [flN_end hlt]
      exact h.ev (by omega)
/-! the start of a flight -/
abbrev d600 : UInt64 := 4648488871632306176
abbrev d200 : UInt64 := 4641240890982006784
abbrev d512 : UInt64 := 4647714815446351872
abbrev d8 : UInt64 := 4620693217682128896
abbrev f256 : UInt32 := 998244352
abbrev f125 : UInt32 := 1040187392
/-- the creep behind k shots -/
def crk : Nat → UInt32
  | 0 => 0
  | k + 1 => FP.fadd (crk k) f256
def CrOk (c : UInt32) : Prop := ∃ k, k < 33 ∧ c = crk k
theorem crk_ok : ∀ k, k < 33 → (FP.f2d (crk k)).toNat % 2 ^ 63 < 1024 * 2 ^ 52 ∧ (FP.dsub FP.dconst1 (FP.f2d (crk k))).toNat % 2 ^ 63 < 1024 * 2 ^ 52 ∧ FP.Core.sgn (FP.Core.val64 (FP.dsub FP.dconst1 (FP.f2d (crk k)))) = false ∧ 7 * 2 ^ 1071 ≤ FP.Core.zmag FP.Core.b64 (FP.Core.val64 (FP.dsub FP.dconst1 (FP.f2d (crk k)))) := by decide +kernel
theorem crk_next : ∀ k, k < 33 → ((FP.fcmp (FP.fadd (crk k) f256) f125 = some .gt ∧ k = 32) ∨ (¬ FP.fcmp (FP.fadd (crk k) f256) f125 = some .gt ∧ (FP.fcmp (FP.fadd (crk k) f256) f125 = some .lt ∨ FP.fcmp (FP.fadd (crk k) f256) f125 = some .eq) ∧ k < 32)) ∧ (FP.fadd (crk k) f256).toNat % 2 ^ 31 ≤ 2139095040 := by decide +kernel
theorem crk_32 : crk 32 = f125 := by decide +kernel
def spd (draw mass : Int32) (creep : UInt32) : UInt64 := FP.dmul (FP.ddiv (FP.dmul (FP.i2d draw) d600) (FP.dadd (FP.i2d mass) d200)) (FP.dsub FP.dconst1 (FP.f2d creep))
def tk0 (draw mass spine sight nock : Int32) (creep : UInt32) : Tk := (FP.dconst0, FP.dconst0, FP.dconst0, spd draw mass creep, FP.dadd (FP.ddiv (FP.dmul (spd draw mass creep) (FP.i2d sight)) d512) (FP.ddiv (FP.i2d nock) d8), FP.ddiv (FP.i2d (spine - (1300 - 14 * draw))) d256)
theorem Eb.l {K : Nat} {x : UInt64} (h : x.toNat % 2 ^ 63 < K * 2 ^ 52) : Eb K x := h
theorem l600 : d600 = FP.Core.l2d 600 := by decide +kernel
theorem l200 : d200 = FP.Core.l2d 200 := by decide +kernel
set_option maxRecDepth 100000 in
/-- whole numbers divided: no less than 15, if 15 times the divisor is no more -/
theorem q15 {A B : Int64} (hA : FP.Core.Small53 A) (hB : FP.Core.Small53 B) (h0 : 0 < B.toInt) (h : 15 * B.toInt ≤ A.toInt) : FP.Core.sgn (FP.Core.val64 (FP.ddiv (FP.Core.l2d A) (FP.Core.l2d B))) = false ∧ 15 * 2 ^ 1074 ≤ ZM (FP.ddiv (FP.Core.l2d A) (FP.Core.l2d B)) := by
  have wa := FP.Core.l2d_whole hA
  have wb := FP.Core.l2d_whole hB
  obtain ⟨c, q, ea⟩ := FP.Core.l2d_shape A
  obtain ⟨d, r, eb⟩ := FP.Core.l2d_shape B
  have hA0 : decide (A.toInt < 0) = false := by simp; omega
  have hB0 : decide (B.toInt < 0) = false := by simp; omega
  rw [hA0] at ea
  rw [hB0] at eb
  rw [ea] at wa
  rw [eb] at wb
  have e1 : ((c * 2 ^ q.toNat : Nat) : Int) = A.toInt * ((2 ^ (-q).toNat : Nat) : Int) := wa
  have e2 : ((d * 2 ^ r.toNat : Nat) : Int) = B.toInt * ((2 ^ (-r).toNat : Nat) : Int) := wb
  obtain ⟨An, hAn⟩ : ∃ n : Nat, A.toInt = n := ⟨A.toInt.toNat, by omega⟩
  obtain ⟨Bn, hBn⟩ : ∃ n : Nat, B.toInt = n := ⟨B.toInt.toNat, by omega⟩
  rw [hAn] at e1
  rw [hBn] at e2
  have e1 : c * 2 ^ q.toNat = An * 2 ^ (-q).toNat := by exact_mod_cast e1
  have e2 : d * 2 ^ r.toNat = Bn * 2 ^ (-r).toNat := by exact_mod_cast e2
  have hBn0 : 0 < Bn := by omega
  have hd : 0 < d := by
    rcases Nat.eq_zero_or_pos d with z | z
    · rw [z, Nat.zero_mul] at e2
      have := Nat.mul_pos hBn0 (Nat.two_pow_pos (-r).toNat)
      omega
    · exact z
  have hv : FP.Core.val64 (FP.ddiv (FP.Core.l2d A) (FP.Core.l2d B)) = FP.Core.roundRatio FP.Core.b64 false An Bn 0 := by
    show FP.Core.val64 (FP.Core.ddiv _ _) = _
    rw [FP.Core.val64_ddiv, ea, eb]
    show (if d = 0 then _ else FP.Core.roundRatio FP.Core.b64 (false != false) c d (q - r)) = _
    rw [if_neg (by omega)]
    refine FP.Core.roundRatio_congr hd hBn0 ?_
    refine Nat.eq_of_mul_eq_mul_right (Nat.two_pow_pos (q.toNat + (-r).toNat)) ?_
    calc c * Bn * 2 ^ (q - r - 0).toNat * 2 ^ (q.toNat + (-r).toNat) = (c * 2 ^ q.toNat) * (Bn * 2 ^ (-r).toNat) * 2 ^ (q - r - 0).toNat := by rw [Nat.pow_add]; ac_rfl
      _ = (An * 2 ^ (-q).toNat) * (d * 2 ^ r.toNat) * 2 ^ (q - r - 0).toNat := by rw [e1, e2]
      _ = An * d * 2 ^ ((-q).toNat + r.toNat + (q - r - 0).toNat) := by rw [Nat.pow_add, Nat.pow_add]; ac_rfl
      _ = An * d * 2 ^ ((0 - (q - r)).toNat + (q.toNat + (-r).toNat)) := by rw [show (-q).toNat + r.toNat + (q - r - 0).toNat = (0 - (q - r)).toNat + (q.toNat + (-r).toNat) by omega]
      _ = An * d * 2 ^ (0 - (q - r)).toNat * 2 ^ (q.toNat + (-r).toNat) := by rw [Nat.pow_add]; ac_rfl
  refine ⟨by rw [hv, FP.Core.sgn_roundRatio], ?_⟩
  unfold ZM
  rw [hv]
  have hV : FP.Core.zmag FP.Core.b64 (FP.Core.val64 4624633867356078080) = 15 * 2 ^ 1074 := by decide +kernel
  rw [← hV]
  refine FP.Core.zmag_roundRatio_ge FP.Core.good_b64 hBn0 (FP.Core.val64_fits _) (e0 := FP.Core.b64.qmin) (Int.le_refl _) (by decide +kernel) ?_
  rw [hV, Int.sub_self]
  show 15 * 2 ^ 1074 * 2 ^ 0 * Bn ≤ An * 2 ^ (0 - FP.Core.b64.qmin).toNat
  rw [FP.Core.qmin_b64, Nat.pow_zero, Nat.mul_one, show ((0 : Int) - -1074).toNat = 1074 from rfl]
  have h15 : 15 * Bn ≤ An := by omega
  calc 15 * 2 ^ 1074 * Bn = 15 * Bn * 2 ^ 1074 := by ac_rfl
    _ ≤ An * 2 ^ 1074 := Nat.mul_le_mul_right _ h15
set_option maxRecDepth 100000 in
/-- a product of no less than 15 with no less than 7/8: no less than 13.125 -/
theorem m13 {x y : UInt64} (fx : FP.Core.DFin x) (fy : FP.Core.DFin y) (sx : FP.Core.sgn (FP.Core.val64 x) = false) (sy : FP.Core.sgn (FP.Core.val64 y) = false) (hx : 15 * 2 ^ 1074 ≤ ZM x) (hy : 7 * 2 ^ 1071 ≤ ZM y) : (13762560 : Int) * (2 ^ 1054 : Nat) ≤ ZV (FP.dmul x y) := by
  obtain ⟨s, c, q, ex⟩ := fx
  obtain ⟨t, d, r, ey⟩ := fy
  unfold ZM at hx hy
  have gx := FP.Core.val64_fits x
  have gy := FP.Core.val64_fits y
  rw [ex] at sx hx gx
  rw [ey] at sy hy gy
  have sx : s = false := sx
  have sy : t = false := sy
  subst sx; subst sy
  obtain ⟨p1, p2, p3⟩ := FP.Core.product_units gx gy
  have hv : FP.Core.val64 (FP.dmul x y) = FP.Core.roundRatio FP.Core.b64 false (c * d) 1 (q + r) := by
    show FP.Core.val64 (FP.Core.dmul x y) = _
    rw [FP.Core.val64_dmul, ex, ey, p1]
    rfl
  have hV : FP.Core.zmag FP.Core.b64 (FP.Core.val64 4623578336193413120) = 105 * 2 ^ 1071 := by decide +kernel
  have hge : 105 * 2 ^ 1071 ≤ FP.Core.zmag FP.Core.b64 (FP.Core.roundRatio FP.Core.b64 false (c * d) 1 (q + r)) := by
    rw [← hV]
    refine FP.Core.zmag_roundRatio_ge FP.Core.good_b64 (by decide) (FP.Core.val64_fits _) (e0 := 2 * FP.Core.b64.qmin) (by decide +kernel) p2 ?_
    rw [hV, p3, Nat.mul_one, FP.Core.qmin_b64, show ((-1074 : Int) - 2 * -1074).toNat = 1074 from rfl]
    calc 105 * 2 ^ 1071 * 2 ^ 1074 = (15 * 2 ^ 1074) * (7 * 2 ^ 1071) := by generalize 2 ^ 1071 = u; generalize 2 ^ 1074 = w; rw [show 105 = 15 * 7 from rfl]; ac_rfl
      _ ≤ _ := Nat.mul_le_mul hx hy
  unfold ZV FP.Core.zval
  rw [hv, FP.Core.sgn_roundRatio]
  show _ ≤ ((FP.Core.zmag FP.Core.b64 (FP.Core.roundRatio FP.Core.b64 false (c * d) 1 (q + r)) : Nat) : Int)
  have h2 : (13762560 : Int) * (2 ^ 1054 : Nat) = ((105 * 2 ^ 1071 : Nat) : Int) := by
    rw [show (105 * 2 ^ 1071 : Nat) = 13762560 * 2 ^ 1054 from by rw [show (1071 : Nat) = 17 + 1054 from rfl, Nat.pow_add, ← Nat.mul_assoc]]
    rw [Int.natCast_mul]
    rfl
  rw [h2]
  exact_mod_cast hge
theorem i2d_l (v : Int32) : FP.i2d v = FP.Core.l2d v.toInt64 := FP.Core.i2d_l2d v
theorem t64 (v : Int32) : v.toInt64.toInt = v.toInt := Int32.toInt_toInt64 v
/-- the parts of a speed, and the speed -/
theorem spd_ok {draw mass : Int32} {creep : UInt32} (hd : 20 ≤ draw.toInt ∧ draw.toInt ≤ 60) (hm : 200 ≤ mass.toInt ∧ mass.toInt ≤ 600) (hc : CrOk creep) :
    vf_n64 (FP.dmul (FP.i2d draw) d600) ∧ vf_n64 (FP.dadd (FP.i2d mass) d200) ∧ vf_n64 (FP.ddiv (FP.dmul (FP.i2d draw) d600) (FP.dadd (FP.i2d mass) d200)) ∧ vf_n64 (FP.f2d creep) ∧ vf_n64 (FP.dsub FP.dconst1 (FP.f2d creep)) ∧ vf_n64 (spd draw mass creep) ∧ Eb 1080 (spd draw mass creep) ∧ Lw 13762560 (spd draw mass creep) := by
  obtain ⟨k, hk, rfl⟩ := hc
  obtain ⟨c1, c2, c3, c4⟩ := crk_ok k hk
  have hdr : draw.toInt64.toInt = draw.toInt := t64 draw
  have hma : mass.toInt64.toInt = mass.toInt := t64 mass
  have h6 : (600 : Int64).toInt = 600 := by decide
  have h2 : (200 : Int64).toInt = 200 := by decide
  have e1 : FP.dmul (FP.i2d draw) d600 = FP.Core.l2d (draw.toInt64 * 600) := by
    rw [i2d_l, l600]
    refine FP.Core.dmul_l2d ⟨by rw [hdr]; omega, by rw [hdr]; omega⟩ (by unfold FP.Core.Small53; decide) ?_ (by decide) (by rw [hdr, h6]; omega) (by rw [hdr, h6]; omega)
    intro h
    rw [h] at hdr
    have : (0 : Int64).toInt = 0 := by decide
    omega
  have e2 : FP.dadd (FP.i2d mass) d200 = FP.Core.l2d (mass.toInt64 + 200) := by
    rw [i2d_l, l200]
    exact FP.Core.dadd_l2d ⟨by rw [hma]; omega, by rw [hma]; omega⟩ (by unfold FP.Core.Small53; decide)
  have n1 : (draw.toInt64 * 600).toInt = draw.toInt * 600 := by rw [FP.Core.int64_mul (by rw [hdr, h6]; omega) (by rw [hdr, h6]; omega), hdr, h6]
  have n2 : (mass.toInt64 + 200).toInt = mass.toInt + 200 := by rw [FP.Core.int64_add (by rw [hma, h2]; omega) (by rw [hma, h2]; omega), hma, h2]
  have b1 : Eb 1069 (FP.dmul (FP.i2d draw) d600) := (Eb.mul (L := 1034) (Eb.i2d draw) (by unfold Eb; decide +kernel) (by decide) (by decide)).up (by decide)
  have b2 : Eb 1058 (FP.dadd (FP.i2d mass) d200) := (Eb.i2d mass).add (by unfold Eb; decide +kernel) (by decide)
  have b2' : 1023 * 2 ^ 52 ≤ (FP.dadd (FP.i2d mass) d200).toNat % 2 ^ 63 := by
    rw [e2]
    exact (FP.Core.l2d_big (by rw [n2]; omega)).1
  have b3 : Eb 1070 (FP.ddiv (FP.dmul (FP.i2d draw) d600) (FP.dadd (FP.i2d mass) d200)) := (Eb.div b1 b2' (b2.up (by decide)) (by decide) (by decide)).up (by decide)
  have b4 : Eb 1080 (spd draw mass (crk k)) := (Eb.mul (L := 1024) b3 c2 (by decide) (by decide)).up (by decide)
  have q1 := q15 (A := draw.toInt64 * 600) (B := mass.toInt64 + 200) ⟨by rw [n1]; omega, by rw [n1]; omega⟩ ⟨by rw [n2]; omega, by rw [n2]; omega⟩ (by rw [n2]; omega) (by rw [n1, n2]; omega)
  refine ⟨b1.n (by decide), b2.n (by decide), b3.n (by decide), Eb.n (K := 1024) c1 (by decide), Eb.n (K := 1024) c2 (by decide), b4.n (by decide), b4, b4.fin (by decide), ?_⟩
  have b3f := b3.fin (by decide)
  rw [e1, e2] at b3f
  have h9 := m13 b3f (Eb.fin (K := 1024) c2 (by decide)) q1.1 c3 q1.2 c4
  unfold spd
  rw [e1, e2]
  exact h9
/-- the parts of the two other speeds -/
theorem up_ok {f : UInt64} (hf : Eb 1080 f) (sight nock : Int32) : vf_n64 (FP.dmul f (FP.i2d sight)) ∧ vf_n64 (FP.ddiv (FP.dmul f (FP.i2d sight)) d512) ∧ vf_n64 (FP.ddiv (FP.i2d nock) d8) ∧ vf_n64 (FP.dadd (FP.ddiv (FP.dmul f (FP.i2d sight)) d512) (FP.ddiv (FP.i2d nock) d8)) ∧ Eb 1110 (FP.dadd (FP.ddiv (FP.dmul f (FP.i2d sight)) d512) (FP.ddiv (FP.i2d nock) d8)) := by
  have b1 : Eb 1114 (FP.dmul f (FP.i2d sight)) := (hf.mul (Eb.i2d sight) (by decide) (by decide)).up (by decide)
  have b2 : Eb 1106 (FP.ddiv (FP.dmul f (FP.i2d sight)) d512) := (Eb.div (L := 1032) b1 (by decide +kernel) (by unfold Eb; decide +kernel) (by decide) (by decide)).up (by decide)
  have b3 : Eb 1106 (FP.ddiv (FP.i2d nock) d8) := (Eb.div (L := 1026) (Eb.i2d nock) (by decide +kernel) (by unfold Eb; decide +kernel) (by decide) (by decide)).up (by decide)
  have b4 := b2.add b3 (by decide)
  exact ⟨b1.n (by decide), b2.n (by decide), b3.n (by decide), b4.n (by decide), b4.up (by decide)⟩
theorem as_ok (v : Int32) : Eb 1056 (FP.ddiv (FP.i2d v) d256) := (Eb.div (L := 1031) (Eb.i2d v) (by decide +kernel) (by unfold Eb; decide +kernel) (by decide) (by decide)).up (by decide)
theorem tk0_I {draw mass : Int32} (spine sight nock : Int32) {creep : UInt32} (hd : 20 ≤ draw.toInt ∧ draw.toInt ≤ 60) (hm : 200 ≤ mass.toInt ∧ mass.toInt ≤ 600) (hc : CrOk creep) : TkI 0 (tk0 draw mass spine sight nock creep) := by
  obtain ⟨-, -, -, -, -, -, hE, hL⟩ := spd_ok hd hm hc
  have z0 : Eb 1110 FP.dconst0 := by unfold Eb; decide +kernel
  refine ⟨⟨z0, z0, z0, hE.up (by decide), (up_ok hE sight nock).2.2.2.2, (as_ok _).up (by decide)⟩, hL, ⟨z0.fin (by decide), ?_⟩⟩
  show ((0 : Nat) : Int) * _ ≤ FP.Core.zval FP.Core.b64 (FP.Core.val64 FP.dconst0)
  rw [show FP.Core.zval FP.Core.b64 (FP.Core.val64 FP.dconst0) = 0 from by decide +kernel]
  simp
