set_option maxRecDepth 1000000 in
set_option maxHeartbeats 40000000 in
theorem md_init (X : AX) (n : Nat) : run X (n + 300) 9 mX11_init 0 [some (rv 88)] [] ((mem σ0).take 88 ++ [.inr (11, dfl 11)]) 0 0 = some (none, mem σ0) := by
  rfl
theorem run_next {X : AX} {n d : Nat} {mr : MRec} {pc : Nat} {L : AL} {S : List AV} {M : AM} {c s : Nat} {ins : Instr} {len : Nat} {pc' : Nat} {L' : AL} {S' : List AV} {M' : AM} {c' s' : Nat} (hd : decode mr.2.1 pc = .ok (ins, len)) (hlen : lenOK ins len = true) (hr : rtn mr ins S = none) (hs : stp X mr d ins pc L S M c s = some (pc', L', S', M', c', s')) : run X (n + 1) d mr pc L S M c s = run X n d mr pc' L' S' M' c' s' := by
  rw [run, hd]
  simp only [hlen, if_true, hr, hs]
theorem run_call {X : AX} {n d : Nat} {mr : MRec} {pc : Nat} {L : AL} {S : List AV} {M : AM} {c s : Nat} {ins : Instr} {len : Nat} {mr' : MRec} {As r : List AV} {v : Option AV} {M' : AM} (hd : decode mr.2.1 pc = .ok (ins, len)) (hlen : lenOK ins len = true) (hr : rtn mr ins S = none) (hs : stp X mr (d + 1) ins pc L S M c s = none) (hc : cal mr ins S M = some (mr', As, r)) (hk : (argL As mr'.2.2.1).length = mr'.2.2.1 ∧ c + mr'.2.2.2.2.1 ≤ mr.2.2.2.2.1 ∧ s + mr'.2.2.2.2.2.1 ≤ mr.2.2.2.2.2.1) (hrun : run X n d mr' 0 (argL As mr'.2.2.1) [] M 0 0 = some (v, M')) : run X (n + 1) (d + 1) mr pc L S M c s = run X n (d + 1) mr (pc + 3) L (v.toList ++ r) M' (c + mr'.2.2.2.2.1) (s + mr'.2.2.2.2.2.1) := by
  rw [run, hd]
  simp only [hlen, if_true, hr, hs, hc, hk, and_self, hrun]
set_option maxRecDepth 100000 in
theorem law_start (X : AX) (n : Nat) : run X (n + 310) 10 mL_law 0 (argL [sv 2] 4) [] [] 0 0 = run X (n + 300) 10 mL_law 18 [some (sv 2), some (rv 0), some (rv 88), some (iv 0)] [] (mem σ0) 108 5241 := by
  rw [run_next (n := n + 309) dL_law_0 rfl rfl rfl]
  rw [run_next (n := n + 308) dL_law_3 rfl rfl rfl]
  rw [run_call (n := n + 307) dL_law_4 rfl rfl rfl rfl ⟨rfl, by decide, by decide⟩ (gm_init X (n + 7))]
  rw [run_next (n := n + 306) dL_law_7 rfl rfl rfl]
  rw [run_next (n := n + 305) dL_law_8 rfl rfl rfl]
  rw [run_next (n := n + 304) dL_law_11 rfl rfl rfl]
  rw [run_call (n := n + 303) dL_law_12 rfl rfl rfl rfl ⟨rfl, by decide, by decide⟩ (md_init X (n + 3))]
  rw [run_next (n := n + 302) dL_law_15 rfl rfl rfl]
  rw [run_next (n := n + 301) dL_law_16 rfl rfl rfl]
  rw [run_next (n := n + 300) dL_law_17 rfl rfl rfl]
  rfl
