/-! ===== what a shot counts: both sides ===== -/
section CM
variable {S : SS} {X : XS} {b : Nat} {sc : Int32} {d : UInt64}
abbrev wn1 : (Nat → Int32) → (Nat → Int32) := fun f => upd (upd f 0 (-1)) 1 (-1)
theorem on_ix (hI : Iv S) (h0 : ¬ S.t 0 = 0) : ix (S.t 7) < 4 ∧ S.t 7 = nI (ix (S.t 7)) := by
  obtain ⟨-, k, i, j, hk4, hk, -⟩ := hI.on h0
  have e : ix (S.t 7) = k := by rw [hk]; exact ix_nI hk4 (by decide)
  rw [e]
  exact ⟨hk4, hk⟩
theorem nI_inj {a b : Nat} (ha : a < 2 ^ 31) (hb : b < 2 ^ 31) (h : nI a = nI b) : a = b := (nI_eq ha hb).mp h
/-- last arrows: the shot's place is the turn modulo 2; else modulo 4 -/
theorem on_last (hI : Iv S) (hR : MR S X b) (h0 : ¬ S.t 0 = 0) (h8 : ¬ S.t 8 = 0) : ix (S.t 7) = X.T % 2 := by
  have h := on_ix hI h0
  have h9 := ((hR.2.2 h0).2.2.2.2.2.2.2.2 h8).1
  rw [h9]
  exact ix_nI (n := 4) (by omega) (by decide)
theorem on_set (hI : Iv S) (hR : MR S X b) (h0 : ¬ S.t 0 = 0) (h8 : S.t 8 = 0) : ix (S.t 7) = X.T % 4 := by
  have h9 := (hR.2.2 h0).2.2.2.2.2.2.2.1 h8
  rw [h9]
  exact ix_nI (n := 4) (by omega) (by decide)
theorem cmT_off (h8 : ¬ S.t 8 = 0) : cmT S sc d = (S.wt (clT S.t (ix (S.t 7)))).wla (clL S.la d (ix (S.t 7))) := by
  unfold cmT ctT ctL
  rw [if_neg h8, if_neg h8]
theorem cmR_off (h8 : ¬ S.t 8 = 0) : cmR S sc d = clR S.t S.la d (ix (S.t 7)) := by
  unfold cmR ctR
  rw [if_neg h8]
theorem cm_A (hI : Iv S) (hR : MR S X b) (h0 : ¬ S.t 0 = 0) (h8 : ¬ S.t 8 = 0) (hw : X.T % 2 = 0) : cmS S sc d = (S.wt (clT S.t (ix (S.t 7)))).wla d ∧ MR (cmS S sc d) ((X.wT (X.T + 1)).wne d) (b + 1) := by
  have hk := on_last hI hR h0 h8
  have e : cmS S sc d = (S.wt (clT S.t (ix (S.t 7)))).wla d := by
    have hr : cmR S sc d = -1 := by rw [cmR_off h8]; unfold clR; rw [if_pos (by rw [hk, hw])]
    unfold cmS
    rw [if_pos hr, cmT_off h8]
    unfold clL
    rw [if_pos (by rw [hk, hw])]
  refine ⟨e, ?_⟩
  rw [e]
  obtain ⟨p0, p1, o0, o1, u0, u1, il, -, -⟩ := hR.2.2 h0
  refine ⟨Nat.succ_le_succ hR.1, fun q => absurd q h0, fun _ => ⟨p0, p1, o0, o1, u0, u1, il, fun q => absurd q h8, fun _ => ⟨?_, fun _ => rfl⟩⟩⟩
  show (if ix (S.t 7) % 2 = 0 then S.t 7 + 1 else 0) = nI ((X.T + 1) % 2)
  rw [if_pos (by rw [hk, hw]), (on_ix hI h0).2, hk, hw, nI_1, show (X.T + 1) % 2 = 1 by omega]
theorem cm_B (hI : Iv S) (hR : MR S X b) (h0 : ¬ S.t 0 = 0) (h8 : ¬ S.t 8 = 0) (hw : X.T % 2 = 1) (he : dk d = dk S.la) : cmS S sc d = S.wt (clT S.t (ix (S.t 7))) ∧ MR (cmS S sc d) (X.wT (X.T + 1)) (b + 1) := by
  have hk := on_last hI hR h0 h8
  have e : cmS S sc d = S.wt (clT S.t (ix (S.t 7))) := by
    have hr : cmR S sc d = -1 := by rw [cmR_off h8]; unfold clR; rw [if_neg (by rw [hk, hw]; decide), if_pos he]
    unfold cmS
    rw [if_pos hr, cmT_off h8]
    unfold clL
    rw [if_neg (by rw [hk, hw]; decide)]
  refine ⟨e, ?_⟩
  rw [e]
  obtain ⟨p0, p1, o0, o1, u0, u1, il, -, -⟩ := hR.2.2 h0
  refine ⟨Nat.succ_le_succ hR.1, fun q => absurd q h0, fun _ => ⟨p0, p1, o0, o1, u0, u1, il, fun q => absurd q h8, fun _ => ⟨?_, fun q => by have h9 : (X.T + 1) % 2 = 1 := q; omega⟩⟩⟩
  show (if ix (S.t 7) % 2 = 0 then S.t 7 + 1 else 0) = nI ((X.T + 1) % 2)
  rw [if_neg (by rw [hk, hw]; decide), show (X.T + 1) % 2 = 0 by omega]
  rfl
theorem MR_off {S' : SS} {X' : XS} {b' : Nat} (h : S'.t 0 = 0) (hT : X'.T ≤ b') (hp : X'.pa 0 = -1) : MR S' X' b' := ⟨hT, fun _ => hp, fun q => absurd h q⟩
theorem cm_C (hI : Iv S) (hR : MR S X b) (h0 : ¬ S.t 0 = 0) (h8 : ¬ S.t 8 = 0) (hw : X.T % 2 = 1) (he : ¬ dk d = dk S.la) {i : Nat} (hi : i < 6) (hr : (if dk S.la < dk d then S.t 1 else S.t 2) = nI i) : cmS S sc d = cmW (S.wt (clT S.t (ix (S.t 7)))) (nI i) := by
  have hk := on_last hI hR h0 h8
  have hr2 : cmR S sc d = nI i := by rw [cmR_off h8, ← hr]; unfold clR; rw [if_neg (by rw [hk, hw]; decide), if_neg he]
  unfold cmS
  rw [hr2, if_neg (nI_m1 (by omega)), cmT_off h8]
  unfold clL
  rw [if_neg (by rw [hk, hw]; decide)]
theorem cmW_eq {t' : Nat → Int32} {i : Nat} (hi : i < 6) : cmW (S.wt t') (nI i) = ((S.wc (upd S.c 14 (nI i))).wA (fu S.A i (upd (S.A i) 8 (S.A i 8 + 1)))).wt (upd t' 0 0) := by
  unfold cmW
  rw [ix_nI hi (by decide)]
theorem MR_win {t' : Nat → Int32} {i : Nat} (hi : i < 6) {X' : XS} (hT : X'.T ≤ b + 1) (hp : X'.pa 0 = -1) : MR (cmW (S.wt t') (nI i)) X' (b + 1) := by
  rw [cmW_eq hi]
  exact MR_off rfl hT hp
theorem cm_D (hI : Iv S) (hR : MR S X b) (h0 : ¬ S.t 0 = 0) (h8 : S.t 8 = 0) (h4 : ¬ (X.T + 1) % 4 = 0) {su9 : Nat → Int32} (e5 : su9 0 = ctS S.t sc (ix (S.t 7)) 5) (e6 : su9 1 = ctS S.t sc (ix (S.t 7)) 6) : cmS S sc d = S.wt (ctS S.t sc (ix (S.t 7))) ∧ MR (cmS S sc d) ((X.wT (X.T + 1)).wsu su9) (b + 1) := by
  have hk := on_set hI hR h0 h8
  have h7 := (on_ix hI h0).2
  have hlt : ¬ 4 ≤ S.t 7 + 1 := by
    rw [h7, nI_1, hk]
    exact nI_ge (a := X.T % 4 + 1) (b := 4) (by omega) (by decide)
  have e : cmS S sc d = S.wt (ctS S.t sc (ix (S.t 7))) := by
    have hr : cmR S sc d = -1 := by unfold cmR ctR; rw [if_pos h8, if_neg hlt]
    unfold cmS
    rw [if_pos hr]
    unfold cmT ctT ctL
    rw [if_pos h8, if_pos h8, if_neg hlt]
  refine ⟨e, ?_⟩
  rw [e]
  obtain ⟨p0, p1, o0, o1, u0, u1, il, -, -⟩ := hR.2.2 h0
  refine ⟨Nat.succ_le_succ hR.1, fun q => absurd q h0, fun _ => ⟨p0, p1, o0, o1, e5, e6, il, fun _ => ?_, fun q => absurd h8 q⟩⟩
  show S.t 7 + 1 = nI ((X.T + 1) % 4)
  rw [h7, nI_1, hk, show (X.T + 1) % 4 = X.T % 4 + 1 by omega]
abbrev q3F (S : SS) (sc : Int32) : Int32 := S.t 3 + ptF (ctS S.t sc (ix (S.t 7)) 5) (ctS S.t sc (ix (S.t 7)) 6)
abbrev q4F (S : SS) (sc : Int32) : Int32 := S.t 4 + ptF (ctS S.t sc (ix (S.t 7)) 6) (ctS S.t sc (ix (S.t 7)) 5)
abbrev v8F (S : SS) (sc : Int32) : Int32 := if q3F S sc < 4 then 0 else if q4F S sc < 4 then 0 else 1
theorem v8_01 : v8F S sc = 0 ∨ v8F S sc = 1 := by
  unfold v8F
  split
  · exact Or.inl rfl
  · split
    · exact Or.inl rfl
    · exact Or.inr rfl
theorem cm_E0 (hI : Iv S) (hR : MR S X b) (h0 : ¬ S.t 0 = 0) (h8 : S.t 8 = 0) (h4 : (X.T + 1) % 4 = 0) : cmT S sc d = S.wt (esT (ctS S.t sc (ix (S.t 7)))) ∧ cmR S sc d = (if q3F S sc < 4 then (if q4F S sc < 4 then -1 else S.t 2) else (if q4F S sc < 4 then S.t 1 else -1)) := by
  have hk := on_set hI hR h0 h8
  have h7 := (on_ix hI h0).2
  have hge : 4 ≤ S.t 7 + 1 := by
    rw [h7, nI_1, hk]
    exact nI_le (a := 4) (by omega) (by omega)
  refine ⟨?_, ?_⟩
  · unfold cmT ctT ctL
    rw [if_pos h8, if_pos h8, if_pos hge]
  · unfold cmR ctR
    rw [if_pos h8, if_pos hge]
    rfl
theorem esT_0 (t : Nat → Int32) : esT t 0 = t 0 := rfl
theorem esT_1 (t : Nat → Int32) : esT t 1 = t 1 := rfl
theorem esT_2 (t : Nat → Int32) : esT t 2 = t 2 := rfl
theorem esT_3 (t : Nat → Int32) : esT t 3 = t 3 + ptF (t 5) (t 6) := rfl
theorem esT_4 (t : Nat → Int32) : esT t 4 = t 4 + ptF (t 6) (t 5) := rfl
theorem esT_5 (t : Nat → Int32) : esT t 5 = 0 := rfl
theorem esT_6 (t : Nat → Int32) : esT t 6 = 0 := rfl
theorem esT_7 (t : Nat → Int32) : esT t 7 = 0 := rfl
theorem esT_8 (t : Nat → Int32) : esT t 8 = if t 3 + ptF (t 5) (t 6) < 4 then 0 else if t 4 + ptF (t 6) (t 5) < 4 then 0 else 1 := by
  unfold esT esT_x
  rw [if_neg (by decide), if_neg (by decide), if_neg (by decide), if_neg (by decide), if_neg (by decide), if_pos rfl]
theorem ctS_0 (t : Nat → Int32) (x : Int32) (k : Nat) : ctS t x k 0 = t 0 := rfl
theorem ctS_1 (t : Nat → Int32) (x : Int32) (k : Nat) : ctS t x k 1 = t 1 := rfl
theorem ctS_2 (t : Nat → Int32) (x : Int32) (k : Nat) : ctS t x k 2 = t 2 := rfl
theorem ctS_3 (t : Nat → Int32) (x : Int32) (k : Nat) : ctS t x k 3 = t 3 := rfl
theorem ctS_4 (t : Nat → Int32) (x : Int32) (k : Nat) : ctS t x k 4 = t 4 := rfl
theorem cm_E (hI : Iv S) (hR : MR S X b) (h0 : ¬ S.t 0 = 0) (h8 : S.t 8 = 0) (h4 : (X.T + 1) % 4 = 0) (hr : cmR S sc d = -1) {X' : XS} (hT : X'.T = X.T + 1) (hp : X'.pa = X.pa) (ho : X'.po 0 = q3F S sc ∧ X'.po 1 = q4F S sc) (hs : X'.su 0 = 0 ∧ X'.su 1 = 0) (hi : X'.il = v8F S sc) : cmS S sc d = S.wt (esT (ctS S.t sc (ix (S.t 7)))) ∧ MR (cmS S sc d) X' (b + 1) := by
  have e : cmS S sc d = S.wt (esT (ctS S.t sc (ix (S.t 7)))) := by
    unfold cmS
    rw [if_pos hr]
    exact (cm_E0 hI hR h0 h8 h4).1
  refine ⟨e, ?_⟩
  rw [e]
  obtain ⟨p0, p1, -, -, -, -, -, -, -⟩ := hR.2.2 h0
  have g0 : ¬ esT (ctS S.t sc (ix (S.t 7))) 0 = 0 := by rw [esT_0, ctS_0]; exact h0
  have g1 : X'.pa 0 = esT (ctS S.t sc (ix (S.t 7))) 1 := by rw [esT_1, ctS_1, hp]; exact p0
  have g2 : X'.pa 1 = esT (ctS S.t sc (ix (S.t 7))) 2 := by rw [esT_2, ctS_2, hp]; exact p1
  have g3 : X'.po 0 = esT (ctS S.t sc (ix (S.t 7))) 3 := by rw [esT_3, ctS_3]; exact ho.1
  have g4 : X'.po 1 = esT (ctS S.t sc (ix (S.t 7))) 4 := by rw [esT_4, ctS_4]; exact ho.2
  have g5 : X'.su 0 = esT (ctS S.t sc (ix (S.t 7))) 5 := by rw [esT_5]; exact hs.1
  have g6 : X'.su 1 = esT (ctS S.t sc (ix (S.t 7))) 6 := by rw [esT_6]; exact hs.2
  have g8 : X'.il = esT (ctS S.t sc (ix (S.t 7))) 8 := by rw [esT_8, ctS_3, ctS_4]; exact hi
  have g7 : esT (ctS S.t sc (ix (S.t 7))) 7 = nI (X'.T % 4) := by rw [esT_7, hT, h4]; rfl
  have g9 : esT (ctS S.t sc (ix (S.t 7))) 7 = nI (X'.T % 2) := by rw [esT_7, hT, show (X.T + 1) % 2 = 0 by omega]; rfl
  have gT : X'.T ≤ b + 1 := by rw [hT]; exact Nat.succ_le_succ hR.1
  have gn : X'.T % 2 = 1 → X'.ne = S.la := fun q => by rw [hT] at q; omega
  generalize esT (ctS S.t sc (ix (S.t 7))) = t9 at *
  exact ⟨gT, fun q => absurd q g0, fun _ => ⟨g1, g2, g3, g4, g5, g6, g8, fun _ => g7, fun _ => ⟨g9, gn⟩⟩⟩
theorem cm_F (hI : Iv S) (hR : MR S X b) (h0 : ¬ S.t 0 = 0) (h8 : S.t 8 = 0) (h4 : (X.T + 1) % 4 = 0) {i : Nat} (hi : i < 6) (hr : cmR S sc d = nI i) : cmS S sc d = cmW (S.wt (esT (ctS S.t sc (ix (S.t 7))))) (nI i) := by
  unfold cmS
  rw [hr, if_neg (nI_m1 (by omega)), (cm_E0 hI hR h0 h8 h4).1]
theorem su_ok (hI : Iv S) (hR : MR S X b) (h0 : ¬ S.t 0 = 0) (h8 : S.t 8 = 0) : upd X.su (X.T % 2) (X.su (X.T % 2) + sc) 0 = ctS S.t sc (ix (S.t 7)) 5 ∧ upd X.su (X.T % 2) (X.su (X.T % 2) + sc) 1 = ctS S.t sc (ix (S.t 7)) 6 := by
  have hk := on_set hI hR h0 h8
  obtain ⟨-, -, -, -, u0, u1, -, -, -⟩ := hR.2.2 h0
  show upd X.su (X.T % 2) (X.su (X.T % 2) + sc) 0 = (if ix (S.t 7) % 2 = 0 then S.t 5 + sc else S.t 5) ∧ upd X.su (X.T % 2) (X.su (X.T % 2) + sc) 1 = (if ix (S.t 7) % 2 = 0 then S.t 6 else S.t 6 + sc)
  have : X.T % 2 = 0 ∨ X.T % 2 = 1 := by omega
  rcases this with q | q
  · rw [q, hk, if_pos (by omega), if_pos (by omega)]
    exact ⟨by show X.su 0 + sc = _; rw [u0], by show X.su 1 = _; rw [u1]⟩
  · rw [q, hk, if_neg (by omega), if_neg (by omega)]
    exact ⟨by show X.su 0 = _; rw [u0], by show X.su 1 + sc = _; rw [u1]⟩
end CM
