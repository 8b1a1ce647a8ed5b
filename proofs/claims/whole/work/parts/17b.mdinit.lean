set_option maxRecDepth 1000000 in
set_option maxHeartbeats 40000000 in
theorem md_init (X : AX) (n : Nat) : run X (n + 300) 9 mX11_init 0 [some (rv 88)] [] ((mem σ0).take 88 ++ [.inr (11, dfl 11)]) 0 0 = some (none, mem σ0) := by
  rfl
