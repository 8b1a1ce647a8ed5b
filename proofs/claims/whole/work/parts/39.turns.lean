/-- BY TURNS from a scene: the scene then, and how it ended -/
def trS (σ : SG) (b : Nat) (h : Int → Int64) : SG × Int := ouS b (σ.1 b 6) 40 σ 0 1 (updA h 0 (pkS (σ.1 (b + 5)) 15))

set_option maxHeartbeats 4000000 in
set_option maxRecDepth 100000 in
theorem s_run_1 {X : AX} {d : Nat} {σ : SG} {Good : SG → Prop} (hGd : GdI Good 1 (σ.1 1 6)) (hgood : Good σ) : Ev X 0 0 (d + 5) mX6_run 0 [some (rv 47), some (rv 1), none, none, none] [] σ (QI (fun z σ' => (trS σ 1 (σ.2 48)).2 = z ∧ SameSc (trS σ 1 (σ.2 48)).1 σ' 1 ∧ Fr [37, 38, 39, 40, 41, 42, 43, 44, 45, 46, 48, 6] σ σ')) := by
  have ho := (hGd.1 σ hgood).1
  refine e_iconst (pc' := 1) dX6_run_0 rfl ?_
  refine e_istore_n (pc' := 2) (L' := [some (rv 47), some (rv 1), some (iv 0), none, none]) dX6_run_1 rfl (by decide) rfl ?_
  refine e_aload_n (pc' := 3) dX6_run_2 rfl rfl ?_
  refine e_getR (pc' := 6) dX6_run_3 rfl f_6_9 h_47 rfl ?_
  refine e_iconst (pc' := 7) dX6_run_6 rfl ?_
  refine e_aload_n (pc' := 8) dX6_run_7 rfl rfl ?_
  refine e_cv0j (pc' := 11) dX6_run_8 rfl k_6_19 h_1 rfl (Nat.le_of_ble_eq_true rfl) rfl rfl ⟨rfl, rfl⟩ ⟨Nat.zero_le _, Nat.zero_le _⟩ (s_packed_1 ho) ?_
  intro z σ' hr; rw [hr.1, hr.2]; clear hr σ'
  refine e_last (pc' := 12) dX6_run_11 rfl h_48 (by decide) (by omega) (by omega) ?_
  refine e_iconst (pc' := 13) dX6_run_12 rfl ?_
  refine e_istore_n (pc' := 14) (L' := [some (rv 47), some (rv 1), some (iv 0), some (iv 1), none]) dX6_run_13 rfl (by decide) rfl ?_
  have h6 := ho.1
  exact l_run_1 (G := σ.1 1 6) ho.1 hGd (trS σ 1 (σ.2 48)) 40 1 0 _ σ _ _ (by omega) (by omega) (fun k _ _ => rfl) hgood (fr_J Fr.rf (by decide)) (upJ_fn rfl) (by omega) rfl

set_option maxHeartbeats 4000000 in
set_option maxRecDepth 100000 in
theorem s_run_17 {X : AX} {d : Nat} {σ : SG} {Good : SG → Prop} (hGd : GdI Good 17 (σ.1 17 6)) (hgood : Good σ) : Ev X 0 0 (d + 5) mX6_run 0 [some (rv 47), some (rv 17), none, none, none] [] σ (QI (fun z σ' => (trS σ 17 (σ.2 48)).2 = z ∧ SameSc (trS σ 17 (σ.2 48)).1 σ' 17 ∧ Fr [37, 38, 39, 40, 41, 42, 43, 44, 45, 46, 48, 22] σ σ')) := by
  have ho := (hGd.1 σ hgood).1
  refine e_iconst (pc' := 1) dX6_run_0 rfl ?_
  refine e_istore_n (pc' := 2) (L' := [some (rv 47), some (rv 17), some (iv 0), none, none]) dX6_run_1 rfl (by decide) rfl ?_
  refine e_aload_n (pc' := 3) dX6_run_2 rfl rfl ?_
  refine e_getR (pc' := 6) dX6_run_3 rfl f_6_9 h_47 rfl ?_
  refine e_iconst (pc' := 7) dX6_run_6 rfl ?_
  refine e_aload_n (pc' := 8) dX6_run_7 rfl rfl ?_
  refine e_cv0j (pc' := 11) dX6_run_8 rfl k_6_19 h_17 rfl (Nat.le_of_ble_eq_true rfl) rfl rfl ⟨rfl, rfl⟩ ⟨Nat.zero_le _, Nat.zero_le _⟩ (s_packed_17 ho) ?_
  intro z σ' hr; rw [hr.1, hr.2]; clear hr σ'
  refine e_last (pc' := 12) dX6_run_11 rfl h_48 (by decide) (by omega) (by omega) ?_
  refine e_iconst (pc' := 13) dX6_run_12 rfl ?_
  refine e_istore_n (pc' := 14) (L' := [some (rv 47), some (rv 17), some (iv 0), some (iv 1), none]) dX6_run_13 rfl (by decide) rfl ?_
  have h6 := ho.1
  exact l_run_17 (G := σ.1 17 6) ho.1 hGd (trS σ 17 (σ.2 48)) 40 1 0 _ σ _ _ (by omega) (by omega) (fun k _ _ => rfl) hgood (fr_J Fr.rf (by decide)) (upJ_fn rfl) (by omega) rfl

set_option maxHeartbeats 4000000 in
set_option maxRecDepth 100000 in
theorem s_turns {X : AX} {d : Nat} {σ : SG} {Good : SG → Prop} (hGd : GdI Good 1 (σ.1 1 6)) (hgood : Good σ) : Ev X 0 0 (d + 6) mX10_turns 0 [some (rv 0)] [] σ (QI (fun z σ' => if σ.1 1 6 = 0 then (z = -5 ∧ σ' = σ) else (z = (trS σ 1 (σ.2 48)).2 ∧ SameSc (trS σ 1 (σ.2 48)).1 σ' 1 ∧ Fr [37, 38, 39, 40, 41, 42, 43, 44, 45, 46, 48, 6] σ σ'))) := by
  have ho := (hGd.1 σ hgood).1
  have h6 := ho.1
  refine e_aload_n (pc' := 1) dX10_turns_0 rfl rfl ?_
  refine e_getR (pc' := 4) dX10_turns_1 rfl f_10_10 h_0 rfl ?_
  refine e_getI (pc' := 7) (v := (σ.1 1 6)) dX10_turns_4 rfl f_10_93 h_1 rfl rfl ?_
  refine e_ifI (pc' := 10) (t := 15) dX10_turns_7 (by decide) rfl ⟨by omega, by omega⟩ (fun (c2_1 : ((σ.1 1 6) : Int) ≠ 0) => ?_) (fun (c2_1 : ¬ (((σ.1 1 6) : Int) ≠ 0)) => ?_)
  · refine e_aload_n (pc' := 16) dX10_turns_15 rfl rfl ?_
    refine e_getR (pc' := 19) dX10_turns_16 rfl f_10_64 h_0 rfl ?_
    refine e_aload_n (pc' := 20) dX10_turns_19 rfl rfl ?_
    refine e_getR (pc' := 23) dX10_turns_20 rfl f_10_10 h_0 rfl ?_
    refine e_cv1i (pc' := 26) dX10_turns_23 rfl k_10_205 h_47 rfl (Nat.le_of_ble_eq_true rfl) rfl rfl ⟨rfl, rfl⟩ ⟨Nat.zero_le _, Nat.zero_le _⟩ (s_run_1 hGd hgood) ?_
    rintro z τ ⟨hz, hS, hF⟩
    exact e_iret dX10_turns_26 rfl ⟨rfl, Nat.le_refl _⟩ ⟨_, rfl, by dsimp only; rw [if_neg (by omega)]; exact ⟨hz.symm, hS, hF⟩⟩
  · refine e_bipush (pc' := 12) (z := (-5)) dX10_turns_10 rfl (by decide) ?_
    refine e_goto (pc' := 26) dX10_turns_12 (by decide) ?_
    exact e_iret dX10_turns_26 rfl ⟨rfl, Nat.le_refl _⟩ ⟨_, rfl, by dsimp only; rw [if_pos (by omega)]; exact ⟨rfl, rfl⟩⟩

set_option maxHeartbeats 4000000 in
set_option maxRecDepth 100000 in
theorem s_most {X : AX} {d : Nat} {σ : SG} (hm : ∀ i, 0 ≤ i → i < 5 → 0 ≤ σ.1 54 i ∧ σ.1 54 i ≤ 1000000) : Ev X 0 0 (d + 1) mX4_most 0 [some (rv 53), none, none] [] σ (QI (fun r σ' => σ' = σ ∧ r = max (max (max 0 (σ.1 54 2)) (σ.1 54 3)) (σ.1 54 4))) := by
  have e2 := hm 2 (by decide) (by decide)
  have e3 := hm 3 (by decide) (by decide)
  have e4 := hm 4 (by decide) (by decide)
  refine e_iconst (pc' := 1) dX4_most_0 rfl ?_
  refine e_istore_n (pc' := 2) (L' := [some (rv 53), some (iv 0), none]) dX4_most_1 rfl (by decide) rfl ?_
  refine e_iconst (pc' := 3) dX4_most_2 rfl ?_
  refine e_istore_n (pc' := 4) (L' := [some (rv 53), some (iv 0), some (iv 2)]) dX4_most_3 rfl (by decide) rfl ?_
  refine e_iload_n (pc' := 5) dX4_most_4 rfl rfl ?_
  refine e_iconst (pc' := 6) dX4_most_5 rfl ?_
  refine e_icmpI (pc' := 9) (t := 26) dX4_most_6 (by decide) rfl ⟨by omega, by omega⟩ ⟨by omega, by omega⟩ (fun c2_1 => absurd (show 4 < (2 : Int) from c2_1) (by decide)) (fun _ => ?_)
  refine e_iload_n (pc' := 10) dX4_most_9 rfl rfl ?_
  refine e_aload_n (pc' := 11) dX4_most_10 rfl rfl ?_
  refine e_getR (pc' := 14) dX4_most_11 rfl f_4_9 h_53 rfl ?_
  refine e_iload_n (pc' := 15) dX4_most_14 rfl rfl ?_
  refine e_iald (pc' := 16) (v := (σ.1 54 2)) dX4_most_15 rfl h_54 (by decide) (by omega) (by omega) rfl ?_
  refine e_max (pc' := 19) dX4_most_16 rfl p_4_77 ⟨by omega, by omega⟩ ⟨by omega, by omega⟩ (Nat.le_of_ble_eq_true rfl) ⟨Nat.zero_le _, Nat.zero_le _⟩ ?_
  refine e_istore_n (pc' := 20) (L' := [some (rv 53), some (iv (max 0 (σ.1 54 2))), some (iv 2)]) dX4_most_19 rfl (by decide) rfl ?_
  refine e_iinc (pc' := 23) (L' := [some (rv 53), some (iv (max 0 (σ.1 54 2))), some (iv 3)]) dX4_most_20 rfl rfl (by decide) rfl ?_
  refine e_goto (pc' := 4) dX4_most_23 (by decide) ?_
  refine e_iload_n (pc' := 5) dX4_most_4 rfl rfl ?_
  refine e_iconst (pc' := 6) dX4_most_5 rfl ?_
  refine e_icmpI (pc' := 9) (t := 26) dX4_most_6 (by decide) rfl ⟨by omega, by omega⟩ ⟨by omega, by omega⟩ (fun c2_2 => absurd (show 4 < (3 : Int) from c2_2) (by decide)) (fun _ => ?_)
  refine e_iload_n (pc' := 10) dX4_most_9 rfl rfl ?_
  refine e_aload_n (pc' := 11) dX4_most_10 rfl rfl ?_
  refine e_getR (pc' := 14) dX4_most_11 rfl f_4_9 h_53 rfl ?_
  refine e_iload_n (pc' := 15) dX4_most_14 rfl rfl ?_
  refine e_iald (pc' := 16) (v := (σ.1 54 3)) dX4_most_15 rfl h_54 (by decide) (by omega) (by omega) rfl ?_
  refine e_max (pc' := 19) dX4_most_16 rfl p_4_77 ⟨by omega, by omega⟩ ⟨by omega, by omega⟩ (Nat.le_of_ble_eq_true rfl) ⟨Nat.zero_le _, Nat.zero_le _⟩ ?_
  refine e_istore_n (pc' := 20) (L' := [some (rv 53), some (iv (max (max 0 (σ.1 54 2)) (σ.1 54 3))), some (iv 3)]) dX4_most_19 rfl (by decide) rfl ?_
  refine e_iinc (pc' := 23) (L' := [some (rv 53), some (iv (max (max 0 (σ.1 54 2)) (σ.1 54 3))), some (iv 4)]) dX4_most_20 rfl rfl (by decide) rfl ?_
  refine e_goto (pc' := 4) dX4_most_23 (by decide) ?_
  refine e_iload_n (pc' := 5) dX4_most_4 rfl rfl ?_
  refine e_iconst (pc' := 6) dX4_most_5 rfl ?_
  refine e_icmpI (pc' := 9) (t := 26) dX4_most_6 (by decide) rfl ⟨by omega, by omega⟩ ⟨by omega, by omega⟩ (fun c2_3 => absurd (show 4 < (4 : Int) from c2_3) (by decide)) (fun _ => ?_)
  refine e_iload_n (pc' := 10) dX4_most_9 rfl rfl ?_
  refine e_aload_n (pc' := 11) dX4_most_10 rfl rfl ?_
  refine e_getR (pc' := 14) dX4_most_11 rfl f_4_9 h_53 rfl ?_
  refine e_iload_n (pc' := 15) dX4_most_14 rfl rfl ?_
  refine e_iald (pc' := 16) (v := (σ.1 54 4)) dX4_most_15 rfl h_54 (by decide) (by omega) (by omega) rfl ?_
  refine e_max (pc' := 19) dX4_most_16 rfl p_4_77 ⟨by omega, by omega⟩ ⟨by omega, by omega⟩ (Nat.le_of_ble_eq_true rfl) ⟨Nat.zero_le _, Nat.zero_le _⟩ ?_
  refine e_istore_n (pc' := 20) (L' := [some (rv 53), some (iv (max (max (max 0 (σ.1 54 2)) (σ.1 54 3)) (σ.1 54 4))), some (iv 4)]) dX4_most_19 rfl (by decide) rfl ?_
  refine e_iinc (pc' := 23) (L' := [some (rv 53), some (iv (max (max (max 0 (σ.1 54 2)) (σ.1 54 3)) (σ.1 54 4))), some (iv 5)]) dX4_most_20 rfl rfl (by decide) rfl ?_
  refine e_goto (pc' := 4) dX4_most_23 (by decide) ?_
  refine e_iload_n (pc' := 5) dX4_most_4 rfl rfl ?_
  refine e_iconst (pc' := 6) dX4_most_5 rfl ?_
  refine e_icmpI (pc' := 9) (t := 26) dX4_most_6 (by decide) rfl ⟨by omega, by omega⟩ ⟨by omega, by omega⟩ (fun _ => ?_) (fun c2_4 => absurd (show 4 < (5 : Int) by decide) c2_4)
  refine e_iload_n (pc' := 27) dX4_most_26 rfl rfl ?_
  exact e_iret dX4_most_27 rfl ⟨rfl, Nat.le_refl _⟩ ⟨_, rfl, rfl, rfl⟩

set_option maxHeartbeats 4000000 in
set_option maxRecDepth 100000 in
theorem s_leastCost {X : AX} {d : Nat} {σ : SG} (hm : ∀ i, 0 ≤ i → i < 5 → 0 ≤ σ.1 54 i ∧ σ.1 54 i ≤ 1000000) : Ev X 0 0 (d + 1) mX4_leastCost 0 [some (rv 53), none, none, none] [] σ (QI (fun r σ' => σ' = σ ∧ r = max (max (max 0 (σ.1 54 2)) (((σ.1 54 3) + 1) / 2)) (((σ.1 54 4) + 2) / 3))) := by
  have e2 := hm 2 (by decide) (by decide)
  have e3 := hm 3 (by decide) (by decide)
  have e4 := hm 4 (by decide) (by decide)
  refine e_iconst (pc' := 1) dX4_leastCost_0 rfl ?_
  refine e_istore_n (pc' := 2) (L' := [some (rv 53), some (iv 0), none, none]) dX4_leastCost_1 rfl (by decide) rfl ?_
  refine e_iconst (pc' := 3) dX4_leastCost_2 rfl ?_
  refine e_istore_n (pc' := 4) (L' := [some (rv 53), some (iv 0), some (iv 2), none]) dX4_leastCost_3 rfl (by decide) rfl ?_
  refine e_iload_n (pc' := 5) dX4_leastCost_4 rfl rfl ?_
  refine e_iconst (pc' := 6) dX4_leastCost_5 rfl ?_
  refine e_icmpI (pc' := 9) (t := 36) dX4_leastCost_6 (by decide) rfl ⟨by omega, by omega⟩ ⟨by omega, by omega⟩ (fun c2_1 => absurd (show 4 < (2 : Int) from c2_1) (by decide)) (fun _ => ?_)
  refine e_iload_n (pc' := 10) dX4_leastCost_9 rfl rfl ?_
  refine e_iconst (pc' := 11) dX4_leastCost_10 rfl ?_
  refine e_isub (pc' := 12) dX4_leastCost_11 rfl ?_
  refine e_istore_n (pc' := 13) (L' := [some (rv 53), some (iv 0), some (iv 2), some (iv (2 - 1))]) dX4_leastCost_12 rfl (by decide) rfl ?_
  refine e_iload_n (pc' := 14) dX4_leastCost_13 rfl rfl ?_
  refine e_aload_n (pc' := 15) dX4_leastCost_14 rfl rfl ?_
  refine e_getR (pc' := 18) dX4_leastCost_15 rfl f_4_9 h_53 rfl ?_
  refine e_iload_n (pc' := 19) dX4_leastCost_18 rfl rfl ?_
  refine e_iald (pc' := 20) (v := (σ.1 54 2)) dX4_leastCost_19 rfl h_54 (by decide) (by omega) (by omega) rfl ?_
  refine e_iload_n (pc' := 21) dX4_leastCost_20 rfl rfl ?_
  refine e_iadd (pc' := 22) dX4_leastCost_21 rfl ?_
  refine e_iconst (pc' := 23) dX4_leastCost_22 rfl ?_
  refine e_isub (pc' := 24) dX4_leastCost_23 rfl ?_
  refine e_iload_n (pc' := 25) dX4_leastCost_24 rfl rfl ?_
  refine e_idiv (pc' := 26) dX4_leastCost_25 rfl (by omega) (by omega) (by omega) (by omega) ?_
  refine e_max (pc' := 29) dX4_leastCost_26 rfl p_4_77 ⟨by omega, by omega⟩ ⟨by omega, by omega⟩ (Nat.le_of_ble_eq_true rfl) ⟨Nat.zero_le _, Nat.zero_le _⟩ ?_
  refine e_istore_n (pc' := 30) (L' := [some (rv 53), some (iv (max 0 ((((σ.1 54 2) + (2 - 1)) - 1) / (2 - 1)))), some (iv 2), some (iv (2 - 1))]) dX4_leastCost_29 rfl (by decide) rfl ?_
  refine e_iinc (pc' := 33) (L' := [some (rv 53), some (iv (max 0 ((((σ.1 54 2) + (2 - 1)) - 1) / (2 - 1)))), some (iv 3), some (iv (2 - 1))]) dX4_leastCost_30 rfl rfl (by decide) rfl ?_
  refine e_goto (pc' := 4) dX4_leastCost_33 (by decide) ?_
  refine e_iload_n (pc' := 5) dX4_leastCost_4 rfl rfl ?_
  refine e_iconst (pc' := 6) dX4_leastCost_5 rfl ?_
  refine e_icmpI (pc' := 9) (t := 36) dX4_leastCost_6 (by decide) rfl ⟨by omega, by omega⟩ ⟨by omega, by omega⟩ (fun c2_2 => absurd (show 4 < (3 : Int) from c2_2) (by decide)) (fun _ => ?_)
  refine e_iload_n (pc' := 10) dX4_leastCost_9 rfl rfl ?_
  refine e_iconst (pc' := 11) dX4_leastCost_10 rfl ?_
  refine e_isub (pc' := 12) dX4_leastCost_11 rfl ?_
  refine e_istore_n (pc' := 13) (L' := [some (rv 53), some (iv (max 0 ((((σ.1 54 2) + (2 - 1)) - 1) / (2 - 1)))), some (iv 3), some (iv (3 - 1))]) dX4_leastCost_12 rfl (by decide) rfl ?_
  refine e_iload_n (pc' := 14) dX4_leastCost_13 rfl rfl ?_
  refine e_aload_n (pc' := 15) dX4_leastCost_14 rfl rfl ?_
  refine e_getR (pc' := 18) dX4_leastCost_15 rfl f_4_9 h_53 rfl ?_
  refine e_iload_n (pc' := 19) dX4_leastCost_18 rfl rfl ?_
  refine e_iald (pc' := 20) (v := (σ.1 54 3)) dX4_leastCost_19 rfl h_54 (by decide) (by omega) (by omega) rfl ?_
  refine e_iload_n (pc' := 21) dX4_leastCost_20 rfl rfl ?_
  refine e_iadd (pc' := 22) dX4_leastCost_21 rfl ?_
  refine e_iconst (pc' := 23) dX4_leastCost_22 rfl ?_
  refine e_isub (pc' := 24) dX4_leastCost_23 rfl ?_
  refine e_iload_n (pc' := 25) dX4_leastCost_24 rfl rfl ?_
  refine e_idiv (pc' := 26) dX4_leastCost_25 rfl (by omega) (by omega) (by omega) (by omega) ?_
  refine e_max (pc' := 29) dX4_leastCost_26 rfl p_4_77 ⟨by omega, by omega⟩ ⟨by omega, by omega⟩ (Nat.le_of_ble_eq_true rfl) ⟨Nat.zero_le _, Nat.zero_le _⟩ ?_
  refine e_istore_n (pc' := 30) (L' := [some (rv 53), some (iv (max (max 0 ((((σ.1 54 2) + (2 - 1)) - 1) / (2 - 1))) ((((σ.1 54 3) + (3 - 1)) - 1) / (3 - 1)))), some (iv 3), some (iv (3 - 1))]) dX4_leastCost_29 rfl (by decide) rfl ?_
  refine e_iinc (pc' := 33) (L' := [some (rv 53), some (iv (max (max 0 ((((σ.1 54 2) + (2 - 1)) - 1) / (2 - 1))) ((((σ.1 54 3) + (3 - 1)) - 1) / (3 - 1)))), some (iv 4), some (iv (3 - 1))]) dX4_leastCost_30 rfl rfl (by decide) rfl ?_
  refine e_goto (pc' := 4) dX4_leastCost_33 (by decide) ?_
  refine e_iload_n (pc' := 5) dX4_leastCost_4 rfl rfl ?_
  refine e_iconst (pc' := 6) dX4_leastCost_5 rfl ?_
  refine e_icmpI (pc' := 9) (t := 36) dX4_leastCost_6 (by decide) rfl ⟨by omega, by omega⟩ ⟨by omega, by omega⟩ (fun c2_3 => absurd (show 4 < (4 : Int) from c2_3) (by decide)) (fun _ => ?_)
  refine e_iload_n (pc' := 10) dX4_leastCost_9 rfl rfl ?_
  refine e_iconst (pc' := 11) dX4_leastCost_10 rfl ?_
  refine e_isub (pc' := 12) dX4_leastCost_11 rfl ?_
  refine e_istore_n (pc' := 13) (L' := [some (rv 53), some (iv (max (max 0 ((((σ.1 54 2) + (2 - 1)) - 1) / (2 - 1))) ((((σ.1 54 3) + (3 - 1)) - 1) / (3 - 1)))), some (iv 4), some (iv (4 - 1))]) dX4_leastCost_12 rfl (by decide) rfl ?_
  refine e_iload_n (pc' := 14) dX4_leastCost_13 rfl rfl ?_
  refine e_aload_n (pc' := 15) dX4_leastCost_14 rfl rfl ?_
  refine e_getR (pc' := 18) dX4_leastCost_15 rfl f_4_9 h_53 rfl ?_
  refine e_iload_n (pc' := 19) dX4_leastCost_18 rfl rfl ?_
  refine e_iald (pc' := 20) (v := (σ.1 54 4)) dX4_leastCost_19 rfl h_54 (by decide) (by omega) (by omega) rfl ?_
  refine e_iload_n (pc' := 21) dX4_leastCost_20 rfl rfl ?_
  refine e_iadd (pc' := 22) dX4_leastCost_21 rfl ?_
  refine e_iconst (pc' := 23) dX4_leastCost_22 rfl ?_
  refine e_isub (pc' := 24) dX4_leastCost_23 rfl ?_
  refine e_iload_n (pc' := 25) dX4_leastCost_24 rfl rfl ?_
  refine e_idiv (pc' := 26) dX4_leastCost_25 rfl (by omega) (by omega) (by omega) (by omega) ?_
  refine e_max (pc' := 29) dX4_leastCost_26 rfl p_4_77 ⟨by omega, by omega⟩ ⟨by omega, by omega⟩ (Nat.le_of_ble_eq_true rfl) ⟨Nat.zero_le _, Nat.zero_le _⟩ ?_
  refine e_istore_n (pc' := 30) (L' := [some (rv 53), some (iv (max (max (max 0 ((((σ.1 54 2) + (2 - 1)) - 1) / (2 - 1))) ((((σ.1 54 3) + (3 - 1)) - 1) / (3 - 1))) ((((σ.1 54 4) + (4 - 1)) - 1) / (4 - 1)))), some (iv 4), some (iv (4 - 1))]) dX4_leastCost_29 rfl (by decide) rfl ?_
  refine e_iinc (pc' := 33) (L' := [some (rv 53), some (iv (max (max (max 0 ((((σ.1 54 2) + (2 - 1)) - 1) / (2 - 1))) ((((σ.1 54 3) + (3 - 1)) - 1) / (3 - 1))) ((((σ.1 54 4) + (4 - 1)) - 1) / (4 - 1)))), some (iv 5), some (iv (4 - 1))]) dX4_leastCost_30 rfl rfl (by decide) rfl ?_
  refine e_goto (pc' := 4) dX4_leastCost_33 (by decide) ?_
  refine e_iload_n (pc' := 5) dX4_leastCost_4 rfl rfl ?_
  refine e_iconst (pc' := 6) dX4_leastCost_5 rfl ?_
  refine e_icmpI (pc' := 9) (t := 36) dX4_leastCost_6 (by decide) rfl ⟨by omega, by omega⟩ ⟨by omega, by omega⟩ (fun _ => ?_) (fun c2_4 => absurd (show 4 < (5 : Int) by decide) c2_4)
  refine e_iload_n (pc' := 37) dX4_leastCost_36 rfl rfl ?_
  exact e_iret dX4_leastCost_37 rfl ⟨rfl, Nat.le_refl _⟩ ⟨_, rfl, rfl, by omega⟩
