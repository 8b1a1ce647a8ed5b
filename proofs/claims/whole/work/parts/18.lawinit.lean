theorem run_next {X : AX} {n d : Nat} {mr : MRec} {pc : Nat} {L : AL} {S : List AV} {M : AM} {c s : Nat} {ins : Instr} {len : Nat} {pc' : Nat} {L' : AL} {S' : List AV} {M' : AM} {c' s' : Nat} (hd : decode mr.2.1 pc = .ok (ins, len)) (hlen : lenOK ins len = true) (hr : rtn mr ins S = none) (hs : stp X mr d ins pc L S M c s = some (pc', L', S', M', c', s')) : run X (n + 1) d mr pc L S M c s = run X n d mr pc' L' S' M' c' s' := by
  rw [run, hd]
  simp only [hlen, if_true, hr, hs]
theorem run_call {X : AX} {n d : Nat} {mr : MRec} {pc : Nat} {L : AL} {S : List AV} {M : AM} {c s : Nat} {ins : Instr} {len : Nat} {mr' : MRec} {As r : List AV} {v : Option AV} {M' : AM} (hd : decode mr.2.1 pc = .ok (ins, len)) (hlen : lenOK ins len = true) (hr : rtn mr ins S = none) (hs : stp X mr (d + 1) ins pc L S M c s = none) (hc : cal mr ins S M = some (mr', As, r)) (hk : (argL As mr'.2.2.1).length = mr'.2.2.1 ∧ c + mr'.2.2.2.2.1 ≤ mr.2.2.2.2.1 ∧ s + mr'.2.2.2.2.2.1 ≤ mr.2.2.2.2.2.1) (hrun : run X n d mr' 0 (argL As mr'.2.2.1) [] M 0 0 = some (v, M')) : run X (n + 1) (d + 1) mr pc L S M c s = run X n (d + 1) mr (pc + 3) L (v.toList ++ r) M' (c + mr'.2.2.2.2.1) (s + mr'.2.2.2.2.2.1) := by
  rw [run, hd]
  simp only [hlen, if_true, hr, hs, hc, hk, and_self, hrun]
theorem stp_new {X : AX} {mr : MRec} {d k pc : Nat} {L : AL} {S : List AV} {M : AM} {c s ci m : Nat} (hn : nwc mr.2.2.2.2.2.2 k = some ci) (hm : M.length = m) (hb : c + 1 ≤ mr.2.2.2.2.1 ∧ s + fszT ci ≤ mr.2.2.2.2.2.1) : stp X mr d (.new k) pc L S M c s = some (pc + 3, L, rv m :: S, M ++ [.inr (ci, dfl ci)], c + 1, s + fszT ci) := by
  subst hm
  simp only [stp, hn, hb, and_self, if_true]
set_option maxRecDepth 100000 in
theorem law_s1 (X : AX) (n : Nat) : run X (n + 310) 10 mL_law 0 (argL [sv 2] 4) [] [] 0 0 = run X (n + 308) 10 mL_law 4 [some (sv 2), none, none, none] [rv 0, rv 0] [.inr (10, dfl 10)] 1 12 := by
  rw [run_next (n := n + 309) (pc' := 3) (L' := [some (sv 2), none, none, none]) (S' := [rv 0]) (M' := [.inr (10, dfl 10)]) (c' := 1) (s' := 12) dL_law_0 rfl rfl (stp_new rfl rfl (by decide))]
  rw [run_next (n := n + 308) (pc' := 4) (L' := [some (sv 2), none, none, none]) (S' := [rv 0, rv 0]) (M' := [.inr (10, dfl 10)]) (c' := 1) (s' := 12) dL_law_3 rfl rfl rfl]
set_option maxRecDepth 100000 in
theorem law_s2 (X : AX) (n : Nat) (M : AM) (hM : M.length = 88) : run X (n + 307) 10 mL_law 7 [some (sv 2), none, none, none] [rv 0] M 88 3512 = run X (n + 304) 10 mL_law 12 [some (sv 2), some (rv 0), none, none] [rv 88, rv 88] (M ++ [.inr (11, dfl 11)]) 89 3541 := by
  rw [run_next (n := n + 306) (pc' := 8) (L' := [some (sv 2), some (rv 0), none, none]) (S' := []) (M' := M) (c' := 88) (s' := 3512) dL_law_7 rfl rfl rfl]
  rw [run_next (n := n + 305) (pc' := 11) (L' := [some (sv 2), some (rv 0), none, none]) (S' := [rv 88]) (M' := M ++ [.inr (11, dfl 11)]) (c' := 89) (s' := 3541) dL_law_8 rfl rfl (stp_new rfl hM (by decide))]
  rw [run_next (n := n + 304) (pc' := 12) (L' := [some (sv 2), some (rv 0), none, none]) (S' := [rv 88, rv 88]) (M' := M ++ [.inr (11, dfl 11)]) (c' := 89) (s' := 3541) dL_law_11 rfl rfl rfl]
set_option maxRecDepth 100000 in
theorem law_s3 (X : AX) (n : Nat) (M : AM) : run X (n + 303) 10 mL_law 15 [some (sv 2), some (rv 0), none, none] [rv 88] M 108 5241 = run X (n + 300) 10 mL_law 18 [some (sv 2), some (rv 0), some (rv 88), some (iv 0)] [] M 108 5241 := by
  rw [run_next (n := n + 302) (pc' := 16) (L' := [some (sv 2), some (rv 0), some (rv 88), none]) (S' := []) (M' := M) (c' := 108) (s' := 5241) dL_law_15 rfl rfl rfl]
  rw [run_next (n := n + 301) (pc' := 17) (L' := [some (sv 2), some (rv 0), some (rv 88), none]) (S' := [iv 0]) (M' := M) (c' := 108) (s' := 5241) dL_law_16 rfl rfl rfl]
  rw [run_next (n := n + 300) (pc' := 18) (L' := [some (sv 2), some (rv 0), some (rv 88), some (iv 0)]) (S' := []) (M' := M) (c' := 108) (s' := 5241) dL_law_17 rfl rfl rfl]
theorem cal_i {mr : MRec} {k i1 i2 kind q : Nat} {mr' : MRec} {ps : List Nat} {S : List AV} {M : AM} (hm : ml mr.2.2.2.2.2.2 k = some (i1, i2, kind, 0, mr', ps)) (hk : kind = 3 ∨ kind = 4) (hr : (S.map cat).sum ≤ 8) : cal mr (.invokespecial k) (rv q :: S) M = some (mr', [rv q], S) := by
  simp only [cal, hm, hk, if_true, List.drop_zero, List.take_zero, List.length_nil, hr, and_self, List.reverse_nil]
set_option maxRecDepth 100000 in
theorem law_start (X : AX) (n : Nat) : run X (n + 310) 10 mL_law 0 (argL [sv 2] 4) [] [] 0 0 = run X (n + 300) 10 mL_law 18 [some (sv 2), some (rv 0), some (rv 88), some (iv 0)] [] (mem σ0) 108 5241 := by
  have h88 : ((mem σ0).take 88).length = 88 := rfl
  have hg := gm_init X (n + 7)
  have hm := md_init X (n + 3)
  generalize hMa : (mem σ0).take 88 = Ma at h88 hg hm
  generalize hMb : mem σ0 = Mb at hm ⊢
  rw [law_s1]
  rw [run_call (n := n + 307) (d := 9) (mr' := mX10_init) (As := [rv 0]) (r := [rv 0]) (v := none) (M' := Ma) dL_law_4 rfl rfl rfl (cal_i rfl (by decide) (by decide)) ⟨rfl, by decide, by decide⟩ hg]
  show run X (n + 307) 10 mL_law 7 [some (sv 2), none, none, none] [rv 0] Ma 88 3512 = _
  rw [law_s2 X n Ma h88]
  rw [run_call (n := n + 303) (d := 9) (mr' := mX11_init) (As := [rv 88]) (r := [rv 88]) (v := none) (M' := Mb) dL_law_12 rfl rfl rfl (cal_i rfl (by decide) (by decide)) ⟨rfl, by decide, by decide⟩ hm]
  show run X (n + 303) 10 mL_law 15 [some (sv 2), some (rv 0), none, none] [rv 88] Mb 108 5241 = _
  exact law_s3 X n Mb
