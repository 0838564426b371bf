/-! ===== what each call asks of the state: its refusal's number, its answer, the state behind it ===== -/
abbrev ix (x : Int32) : Nat := x.toNatClampNeg
theorem ix_nI {j n : Nat} (h : j < n) (hn : n < 2 ^ 31) : ix (nI j) = j := nI_clamp (by omega)
def arC (S : SS) (x y : Int32) : Nat := if (btw x 20 60 && btw y 0 9) = true then (if S.nA < 6 then 0 else 2) else 1
def arS (S : SS) (x y : Int32) : SS := ((S.wA (fu S.A S.nA (upd (upd (S.A S.nA) 0 x) 1 y))).wc (upd S.c 2 (S.c 2 + 1))).wnA (S.nA + 1)
def quC (S : SS) (x y : Int32) : Nat := if (btw x 200 600 && btw y 300 1100) = true then (if S.nQ < 6 then 0 else 2) else 1
def quS (S : SS) (x y : Int32) : SS := ((S.wq (fu S.q S.nQ (upd (upd (S.q S.nQ) 0 x) 1 y))).wc (upd S.c 3 (S.c 3 + 1))).wnQ (S.nQ + 1)
def giC (S : SS) (x y : Int32) : Nat := if (inb x S.nA && inb y S.nQ) = true then (if S.t 0 = 0 then 0 else 2) else 1
def giA (S : SS) (y : Int32) : SS := if hoI S y < S.nA then S.wA (fu S.A (hoI S y) (upd (S.A (hoI S y)) 5 (-1))) else S
def giS (S : SS) (j : Nat) (y : Int32) : SS := (giA S y).wA (fu (giA S y).A j (upd ((giA S y).A j) 5 y))
def tuC (S : SS) (x y z : Int32) : Nat := if inb x S.nA = true then (if (btw y 0 127 && btw z (-8) 8) = true then 0 else 2) else 1
def tuS (S : SS) (j : Nat) (y z : Int32) : SS := S.wA (fu S.A j (upd (upd (S.A j) 2 y) 3 z))
def stC (S : SS) (x : Int32) : Nat := if inb x S.nA = true then 0 else 1
def stS (S : SS) (j : Nat) : SS := S.wcr (fu S.cr j FP.fconst0)
def fiC (S : SS) (x y z : Int32) : Nat := if (btw x 10 90 && (btw y (-16) 16 && btw z 1 8)) = true then (if skF S ≤ 0 then 0 else 2) else 1
def fiS (S : SS) (x y z : Int32) : SS := S.wc (upd (upd (upd S.c 4 x) 5 y) 6 z)
def wiC (y : Int32) : Nat := if btw y (-16) 16 = true then 0 else 1
def wiS (S : SS) (y : Int32) : SS := S.wc (upd S.c 5 y)
/-- whose turn it is -/
def trF (S : SS) : Int32 := if ix (S.t 7) % 2 = 0 then S.t 1 else S.t 2
def shC (S : SS) (x y : Int32) : Nat := if (inb x S.nA && inb y 12) = true then (if S.c 7 = 0 ∧ ¬ S.A (ix x) 5 = -1 ∧ S.F (ix (S.A (ix x) 5)) (ix y) = 0 ∧ (S.t 0 = 0 ∨ trF S = x) then 0 else 2) else 1
/-- where the arrow of archer j out of quiver n flies -/
def flT (S : SS) (j n : Nat) (sight di : Int32) : Tk := flN (S.c 5) di 150 (tk0 (S.A j 0) (S.q n 0) (S.q n 1) sight (S.A j 3) (S.cr j))
def flH (S : SS) (j n : Nat) (sight di : Int32) : UInt64 := (flT S j n sight di).2.2.1
def flV (S : SS) (j n : Nat) (sight di : Int32) : UInt64 := (flT S j n sight di).2.1
def drN (S : SS) : Int32 := (13 * S.c 8 + 7) - (13 * S.c 8 + 7) / 64 * 64
def shH (S : SS) (j n : Nat) : UInt64 := FP.dadd (flH S j n (S.A j 2) (S.c 4)) (shkF (drN S - drN S / 8 * 8) (S.A j 1) (S.c 4))
def shV (S : SS) (j n : Nat) : UInt64 := FP.dadd (flV S j n (S.A j 2) (S.c 4)) (shkF (drN S / 8) (S.A j 1) (S.c 4))
/-- the first stuck arrow that it hits -/
def spQ (S : SS) (h v : UInt64) : Nat := fsI (fun i => decide (¬ fstN (hitP h v (S.F i) (S.H i) (S.V i)) 12 0 = -1)) S.nQ 0
def spK (S : SS) (h v : UInt64) : Nat := ix (fstN (hitP h v (S.F (spQ S h v)) (S.H (spQ S h v)) (S.V (spQ S h v))) 12 0)
def spS (S : SS) (h v : UInt64) : SS := if spQ S h v < S.nQ then (S.wF (fu S.F (spQ S h v) (upd (S.F (spQ S h v)) (spK S h v) 3))).wc (upd S.c 10 (S.c 10 + 1)) else S
def ldS (S : SS) (n y : Nat) (h v : UInt64) (sc : Int32) : SS := ((S.wH (fu S.H n (vf_upd (S.H n) y h))).wV (fu S.V n (vf_upd (S.V n) y v))).wF (fu S.F n (upd (S.F n) y (if sc = 0 then 2 else 1)))
def ctA (S : SS) (j : Nat) (sc : Int32) : SS := ((S.wA (fu S.A j (cntA (S.A j) sc))).wcr (fu S.cr j (crNx (S.cr j)))).wc (upd S.c 9 (S.c 9 + 1))
/-- what a shot counts for the match that is on -/
def cmR (S : SS) (sc : Int32) (d : UInt64) : Int32 := ctR S.t S.la sc d (ix (S.t 7))
def cmT (S : SS) (sc : Int32) (d : UInt64) : SS := (S.wt (ctT S.t sc (ix (S.t 7)))).wla (ctL S.t S.la d (ix (S.t 7)))
def cmW (S : SS) (r : Int32) : SS := ((S.wt (upd S.t 0 0)).wc (upd S.c 14 r)).wA (fu S.A (ix r) (upd (S.A (ix r)) 8 (S.A (ix r) 8 + 1)))
def cmS (S : SS) (sc : Int32) (d : UInt64) : SS := if cmR S sc d = -1 then cmT S sc d else cmW (cmT S sc d) (cmR S sc d)
def shR (S : SS) (j n : Nat) : Int32 := wth (S.c 6) (farF (shH S j n) (shV S j n))
def shS0 (S : SS) (j n y : Nat) : SS := ctA (ldS (spS (S.wc (upd S.c 8 (drN S))) (shH S j n) (shV S j n)) n y (shH S j n) (shV S j n) (shR S j n)) j (shR S j n)
def shS (S : SS) (j n y : Nat) : SS := if S.t 0 = 0 then shS0 S j n y else cmS (shS0 S j n y) (shR S j n) (farF (shH S j n) (shV S j n))
def puQ (S : SS) (n : Nat) : SS := S.wF (fun j => if j < n then bbF (bbF (S.F j) 1 12) 2 12 else S.F j)
def puA (S : SS) (n : Nat) : SS := S.wA (fun j => if j < n then fgtA (S.A j) else S.A j)
def puS (S : SS) : SS := puA (puQ S S.nQ) S.nA
def meC (S : SS) (x : Int32) : Nat := if inb x S.nQ = true then 0 else 1
def meS (S : SS) (j : Nat) : SS := S.wF (fu S.F j (bbF (S.F j) 3 12))
def maC (S : SS) (x y : Int32) : Nat := if (inb x S.nA && inb y S.nA) = true then (if x = y then 2 else if S.t 0 = 0 ∧ ¬ S.A (ix x) 5 = -1 ∧ ¬ S.A (ix y) 5 = -1 then 0 else 3) else 1
def maS (S : SS) (x y : Int32) : SS := (S.wt (bgT x y)).wc (upd S.c 13 (S.c 13 + 1))
def brC (S : SS) : Nat := if S.t 0 = 0 then 1 else 0
def brS (S : SS) : SS := S.wt (upd S.t 0 0)
def clS (S : SS) (b : Int32) : SS := S.wc (upd S.c 7 b)
def hoS (S : SS) : SS := S.wc (upd S.c 11 (S.c 11 + 1))
def oaC (S : SS) (x w : Int32) : Nat := if inb x S.nA = true then (if btw w 0 10 = true then 0 else 2) else 1
def oaF (S : SS) (j k : Nat) : Int32 := if k < 4 then S.A j k else S.A j (k + 1)
def sdF (S : SS) (j : Nat) : UInt64 := if S.A j 5 = -1 then FP.dconst0 else spd (S.A j 0) (S.q (ix (S.A j 5)) 0) (S.cr j)
def oqC (S : SS) (x w : Int32) : Nat := if inb x S.nQ = true then (if btw w 0 6 = true then 0 else 2) else 1
def oqF (S : SS) (j k : Nat) : Int32 := if k = 0 then S.q j 0 else if k = 1 then S.q j 1 else if k = 2 then hoF S (nI j) else setN (S.F j) (nI (k - 3)) 12
def hiC (S : SS) (x y : Int32) : Nat := if (inb x S.nQ && inb y 12) = true then 0 else 1
def hiF (S : SS) (j k : Nat) (b : Int32) : UInt64 := if b = 0 then S.H j k else S.V j k
def mnC (w : Int32) : Nat := if btw w 0 11 = true then 0 else 1
def mnF (S : SS) (k : Nat) : Int32 := if k = 0 then S.c 2 else if k = 1 then S.c 3 else if k = 2 then S.c 4 else if k = 3 then S.c 5 else if k = 4 then S.c 6 else if k = 5 then skF S else if k = 6 then S.c 9 else if k = 7 then S.c 10 else if k = 8 then S.c 8 else if k = 9 then S.c 13 else if k = 10 then S.c 7 else S.c 11
def omC (w : Int32) : Nat := if btw w 0 7 = true then 0 else 1
def omF (S : SS) (k : Nat) : Int32 := if S.t 0 = 0 then -1 else if k = 6 then trF S else if k = 7 then S.t 8 else S.t (k + 1)
def whC (S : SS) (x w : Int32) : Nat := if inb x S.nA = true then (if btw w 0 127 = true then (if S.A (ix x) 5 = -1 then 3 else 0) else 2) else 1
def whF (S : SS) (j : Nat) (w b : Int32) : UInt64 := if b = 0 then flH S j (ix (S.A j 5)) w (S.c 4) else flV S j (ix (S.A j 5)) w (S.c 4)
/-- of an archer who must have a quiver -/
def rdC (S : SS) (x : Int32) : Nat := if inb x S.nA = true then (if S.A (ix x) 5 = -1 then 2 else 0) else 1
/-- the first least of n + 1 -/
def amN (f : Nat → Nat) : Nat → Nat
  | 0 => 0
  | n + 1 => if f n < f (amN f n) then n else amN f n
def mkF (S : SS) (j : Nat) : Int32 := nI (amN (fun k => ab (flV S j (ix (S.A j 5)) (nI k) (S.c 4))) 128)
def beN (S : SS) (j : Nat) : Nat → Int32
  | 0 => -1
  | n + 1 => if (hoF S (nI n) = -1 ∨ hoF S (nI n) = nI j) ∧ (beN S j n = -1 ∨ ab (flH S j n (S.A j 2) (S.c 4)) < ab (flH S j (ix (beN S j n)) (S.A j 2) (S.c 4))) then nI n else beN S j n
def beF (S : SS) (j : Nat) : Int32 := beN S j S.nQ
/-- from d down to 10 -/
def reN (S : SS) (j : Nat) : Nat → Int32
  | 0 => -1
  | n + 1 => if 0 ≤ dk (flV S j (ix (S.A j 5)) 127 (nI (n + 10))) then nI (n + 10) else reN S j n
def reF (S : SS) (j : Nat) : Int32 := reN S j 81
def wsF (S : SS) (j : Nat) : Int32 := wth (S.c 6) (farF (flH S j (ix (S.A j 5)) (S.A j 2) (S.c 4)) (flV S j (ix (S.A j 5)) (S.A j 2) (S.c 4)))
/-- the digest -/
abbrev d1024 : UInt64 := 4652218415073722368
def dgA (d : Int64) (f : Nat → Int64) : Nat → Int64
  | 0 => d
  | n + 1 => dgA d f n * 31 + f n
def dgR (S : SS) (d : Int64) (j : Nat) : Int64 := (dgA d (fun k => (oaF S j k).toInt64) 11 * 31 + FP.d2l (FP.dmul d1024 (sdF S j))) * 31 + (beF S j).toInt64
def dgH (S : SS) (j : Nat) (d : Int64) : Nat → Int64
  | 0 => d
  | n + 1 => (dgH S j d n * 31 + FP.d2l (FP.dmul d4096 (S.H j n))) * 31 + FP.d2l (FP.dmul d4096 (S.V j n))
def dgQ (S : SS) (d : Int64) (j : Nat) : Int64 := dgH S j (dgA d (fun k => (oqF S j k).toInt64) 7) 12
def dgL (f : Int64 → Nat → Int64) (d : Int64) : Nat → Int64
  | 0 => d
  | n + 1 => f (dgL f d n) n
def dgF (S : SS) : Int64 := dgL (dgQ S) (dgL (dgR S) (dgA (dgA 58318 (fun k => (mnF S k).toInt64) 12) (fun k => (omF S k).toInt64) 8 * 31 + (S.c 14).toInt64) S.nA) S.nQ
section RCA
variable {g : Nat → ClassId} {L : Nat → Nat → Nat} {S : SS} {fh fv : UInt64} {μ : mu}
theorem RC.setA (h : RC g L S fh fv μ) {i : Nat} (hi : i < 6) (x : Nat → Int32) : RC g L (S.wA (fu S.A i x)) fh fv (mp μ (L 5 i) (eAr x (S.cr i))) := by
  have h2 := h.setAr hi x (S.cr i)
  rw [fu_id] at h2
  exact h2
theorem RC.setT (h : RC g L S fh fv μ) (t' : Nat → Int32) : RC g L (S.wt t') fh fv (mp μ (L 3 0) (eMt t' S.la)) := h.setMt t' S.la
theorem RC.setCr (h : RC g L S fh fv μ) {i : Nat} (hi : i < 6) (y : UInt32) : RC g L (S.wcr (fu S.cr i y)) fh fv (mp μ (L 5 i) (eAr (S.A i) y)) := by
  have h2 := h.setAr hi (S.A i) y
  rw [fu_id] at h2
  exact h2
theorem RC.wnA (h : RC g L S fh fv μ) (n : Nat) : RC g L (S.wnA n) fh fv μ := h
theorem RC.wnQ (h : RC g L S fh fv μ) (n : Nat) : RC g L (S.wnQ n) fh fv μ := h
end RCA
theorem Iv.on {S : SS} (h : Iv S) (h0 : ¬ S.t 0 = 0) : S.t 0 = 1 ∧ ∃ k i j, k < 4 ∧ S.t 7 = nI k ∧ i < S.nA ∧ S.t 1 = nI i ∧ j < S.nA ∧ S.t 2 = nI j ∧ i ≠ j ∧ (S.t 8 = 0 ∨ (S.t 8 = 1 ∧ k < 2)) := h.2.2.2.2.2.2.2.2.2.resolve_left h0
theorem Iv.A6 {S : SS} (h : Iv S) : S.nA ≤ 6 := h.1.2.1
theorem Iv.Q6 {S : SS} (h : Iv S) : S.nQ ≤ 6 := h.1.2.2.2
theorem b01 {x : Int32} (h : x = 0 ∨ x = 1) : narrow .boolean (.int x) = .int x := by
  rcases h with rfl | rfl <;> rfl
theorem b01_fits {x : Int32} (h : x = 0 ∨ x = 1) : fits .boolean (.int x) = true := by
  rcases h with rfl | rfl <;> rfl
theorem crf_n {c : UInt32} (h : CrOk c) : vf_n64 (FP.f2d c) := by
  obtain ⟨k, hk, rfl⟩ := h
  exact Eb.n (K := 1024) (crk_ok k hk).1 (by decide)
theorem btw0 {w hi : Int32} {n : Nat} (h : btw w 0 hi = true) (hh : hi.toInt = n) : ∃ k, k < n + 1 ∧ w = nI k := by
  obtain ⟨h1, h2⟩ := btw_of h
  obtain ⟨j, hj, rfl⟩ := nI_of2 hh (Int32.not_lt.mpr h1) h2
  exact ⟨j, by omega, rfl⟩
theorem nI_m1 {j : Nat} (h : j < 2 ^ 31) : ¬ nI j = -1 := fun q => absurd (congrArg (fun z : Int32 => decide (z < 0)) q) (by simp only [decide_eq_false (nI_pos h)]; decide)
section FLY
variable {l : Launch} {s0 : State} {D : va_G} {g : Nat → ClassId} {L : Nat → Nat → Nat} {S : SS} {fh fv : UInt64} {μ : mu}
theorem fl_ok (hI : Iv S) {j n : Nat} (hj : j < S.nA) (hn : n < S.nQ) (x : Int32) {di : Int32} (hd : di.toInt ≤ 90) : Eb 1410 (flH S j n x di) ∧ Eb 1410 (flV S j n x di) := by
  have h := flN_I (w := S.c 5) hd 146 0 (tk0 (S.A j 0) (S.q n 0) (S.q n 1) x (S.A j 3) (S.cr j)) rfl (tk0_I _ _ _ (hI.2.2.2.1 j hj).1 (hI.2.2.2.2.2.1 n hn) (hI.2.2.2.1 j hj).2.1)
  exact ⟨h.2, h.1⟩
theorem k_flyS (B : Base s0) (hR : RC g L S fh fv μ) (hI : Iv S) {j n : Nat} (hj : j < S.nA) (hn : n < S.nQ) {x di : Int32} (hd : di.toInt ≤ 90) : Ct l yX1_fly wsX1_fly (rmOf 1 0 0 60) s0 D (tyL g) [.ref (L 4 0), .ref (L 5 j), .ref (L 6 n), .int x, .int di, .int (S.c 5)] μ 0 0 (fun v μ' => v = none ∧ μ' = mp μ (L 4 0) (eFl (flH S j n x di) (flV S j n x di))) :=
  k_X1_fly B hR.fl (hR.ar (Nat.lt_of_lt_of_le hj hI.A6)) (hR.qu (Nat.lt_of_lt_of_le hn hI.Q6)) (hI.2.2.2.1 j hj).1 (hI.2.2.2.2.2.1 n hn) (hI.2.2.2.1 j hj).2.1 hd
end FLY
theorem amN_y {f : Nat → Nat} {n : Nat} (h : f n < f (amN f n)) : amN f (n + 1) = n := if_pos h
theorem amN_n {f : Nat → Nat} {n : Nat} (h : ¬ f n < f (amN f n)) : amN f (n + 1) = amN f n := if_neg h
theorem amN_1 {f : Nat → Nat} : amN f 1 = 0 := if_neg (Nat.lt_irrefl _)
theorem omF_off {S : SS} (h : S.t 0 = 0) (k : Nat) : omF S k = -1 := if_pos h
theorem omF_on {S : SS} (h : ¬ S.t 0 = 0) {k : Nat} (hk : k < 6) : omF S k = S.t (k + 1) := by
  unfold omF
  rw [if_neg h, if_neg (by omega), if_neg (by omega)]
theorem omF_6 {S : SS} (h : ¬ S.t 0 = 0) : omF S 6 = trF S := by
  unfold omF
  rw [if_neg h, if_pos rfl]
theorem omF_7 {S : SS} (h : ¬ S.t 0 = 0) : omF S 7 = S.t 8 := by
  unfold omF
  rw [if_neg h, if_neg (by decide), if_pos rfl]
theorem trF_k {S : SS} {k : Nat} (hk : S.t 7 = nI k) (hk4 : k < 4) : trF S = if k % 2 = 0 then S.t 1 else S.t 2 := by
  unfold trF
  rw [hk, ix_nI hk4 (by decide)]
