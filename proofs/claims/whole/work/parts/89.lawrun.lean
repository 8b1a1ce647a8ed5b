theorem law_run (X : AX) (hX : X.1 ≤ 2560) : ∃ (n : Nat) (M' : AM), run X n 10 mL_law 0 (argL [sv 2] 4) [] [] 0 0 = some (some (iv 1), M') := by
  sorry
