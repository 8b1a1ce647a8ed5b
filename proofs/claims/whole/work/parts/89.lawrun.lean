theorem law_run (X : AX) (hX : X.1 ≤ 2560) : ∃ (n : Nat) (M' : AM), run X n 10 mL_law 0 (argL [sv 2] 4) [] [] 0 0 = some (some (iv 1), M') := by
  obtain ⟨n, v, σ', hr, hv⟩ := law_loop hX 512 0 σ0 (by omega) (by omega) (by omega) inv0
  refine ⟨n + 310, mem σ', ?_⟩
  rw [law_start X n, run_mono n hr (Nat.le_add_right n 300), hv]
