set_option maxHeartbeats 4000000 in
set_option maxRecDepth 100000 in
theorem s_isWithin {X : AX} {d : Nat} {σ : SG} (v t : Int) (hv : rg v) (ht : rg t) : Ev X 0 0 d mX10_isWithin 0 [some (iv v), some (iv t)] [] σ (QI (fun r σ' => σ' = σ ∧ r = if 0 ≤ v ∧ v ≤ t then 1 else 0)) := by
  obtain ⟨hv1, hv2⟩ := hv
  obtain ⟨ht1, ht2⟩ := ht
  refine e_iload_n (pc' := 1) dX10_isWithin_0 rfl rfl ?_
  refine e_ifI (pc' := 4) (t := 13) dX10_isWithin_1 (by decide) rfl ⟨by omega, by omega⟩ (fun (c2_1 : (v : Int) < 0) => ?_) (fun (c2_1 : ¬ ((v : Int) < 0)) => ?_)
  · refine e_iconst (pc' := 14) dX10_isWithin_13 rfl ?_
    exact e_zret dX10_isWithin_14 rfl (by decide) ⟨rfl, Nat.le_refl _⟩ ⟨_, rfl, rfl, by first | (rw [if_pos (by omega)]) | (rw [if_neg (by omega)])⟩
  · refine e_iload_n (pc' := 5) dX10_isWithin_4 rfl rfl ?_
    refine e_iload_n (pc' := 6) dX10_isWithin_5 rfl rfl ?_
    refine e_icmpI (pc' := 9) (t := 13) dX10_isWithin_6 (by decide) rfl ⟨by omega, by omega⟩ ⟨by omega, by omega⟩ (fun (c4_2 : t < (v : Int)) => ?_) (fun (c4_2 : ¬ (t < (v : Int))) => ?_)
    · refine e_iconst (pc' := 14) dX10_isWithin_13 rfl ?_
      exact e_zret dX10_isWithin_14 rfl (by decide) ⟨rfl, Nat.le_refl _⟩ ⟨_, rfl, rfl, by first | (rw [if_pos (by omega)]) | (rw [if_neg (by omega)])⟩
    · refine e_iconst (pc' := 10) dX10_isWithin_9 rfl ?_
      refine e_goto (pc' := 14) dX10_isWithin_10 (by decide) ?_
      exact e_zret dX10_isWithin_14 rfl (by decide) ⟨rfl, Nat.le_refl _⟩ ⟨_, rfl, rfl, by first | (rw [if_pos (by omega)]) | (rw [if_neg (by omega)])⟩
