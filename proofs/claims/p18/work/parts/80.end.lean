theorem i_vc : Claimed_1_1 ∧ Claimed_1_2 := sorry
/-- what is owed is false: its own witness gives a start, and no run from there ends within the printed room -/
theorem whole_false : ¬ (Claimed_1_1 ∧ Claimed_1_2) := fun h => room_false witness_1 h.1
