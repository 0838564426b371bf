/-- true, and empty: no launch meets its premises (e_lists). It says nothing of the class -/
theorem i_vc : Claimed_1_1 ∧ Claimed_1_2 := ⟨fun l _ h _ => absurd h (e_lists l), fun l _ h _ => absurd h (e_lists l)⟩
