set_option maxHeartbeats 4000000 in
set_option maxRecDepth 100000 in
theorem s_isWithin {X : AX} {d : Nat} {σ : SG} (v t : Int) (hv : rg v) (ht : rg t) : Ev X 0 0 d mX10_isWithin 0 [some (iv v), some (iv t)] [] σ (QI (fun r σ' => σ' = σ ∧ r = if 0 ≤ v ∧ v ≤ t then 1 else 0)) := by
  obtain ⟨hv1, hv2⟩ := hv
  obtain ⟨ht1, ht2⟩ := ht
  refine e_iload_n (pc' := 1) dX10_isWithin_0 rfl rfl ?_
  refine e_ifI (pc' := 4) (t := 13) dX10_isWithin_1 (by decide) rfl ⟨by omega, by omega⟩ (fun (c2_1 : (v : Int) < 0) => ?_) (fun (c2_1 : ¬ ((v : Int) < 0)) => ?_)
  · refine e_iconst (pc' := 14) dX10_isWithin_13 rfl ?_
    exact e_zret dX10_isWithin_14 rfl (by decide) ⟨rfl, Nat.le_refl _⟩ ⟨_, rfl, rfl, by first | (rw [if_pos (by omega)]) | (rw [if_neg (by omega)])⟩
  · refine e_iload_n (pc' := 5) dX10_isWithin_4 rfl rfl ?_
    refine e_iload_n (pc' := 6) dX10_isWithin_5 rfl rfl ?_
    refine e_icmpI (pc' := 9) (t := 13) dX10_isWithin_6 (by decide) rfl ⟨by omega, by omega⟩ ⟨by omega, by omega⟩ (fun (c4_2 : t < (v : Int)) => ?_) (fun (c4_2 : ¬ (t < (v : Int))) => ?_)
    · refine e_iconst (pc' := 14) dX10_isWithin_13 rfl ?_
      exact e_zret dX10_isWithin_14 rfl (by decide) ⟨rfl, Nat.le_refl _⟩ ⟨_, rfl, rfl, by first | (rw [if_pos (by omega)]) | (rw [if_neg (by omega)])⟩
    · refine e_iconst (pc' := 10) dX10_isWithin_9 rfl ?_
      refine e_goto (pc' := 14) dX10_isWithin_10 (by decide) ?_
      exact e_zret dX10_isWithin_14 rfl (by decide) ⟨rfl, Nat.le_refl _⟩ ⟨_, rfl, rfl, by first | (rw [if_pos (by omega)]) | (rw [if_neg (by omega)])⟩

set_option maxHeartbeats 4000000 in
set_option maxRecDepth 100000 in
theorem s_isRule {X : AX} {d : Nat} {σ : SG} (v : Int) (hv : rg v) : Ev X 0 0 (d + 1) mX10_isRule 0 [some (iv v)] [] σ (QI (fun r σ' => σ' = σ ∧ r = if 0 ≤ v ∧ v ≤ 2 then 1 else 0)) := by
  obtain ⟨hv1, hv2⟩ := hv
  refine e_iload_n (pc' := 1) dX10_isRule_0 rfl rfl ?_
  refine e_iconst (pc' := 2) dX10_isRule_1 rfl ?_
  refine e_cs2i (pc' := 5) dX10_isRule_2 rfl pn_10_89 k_10_89 (Nat.le_of_ble_eq_true rfl) rfl rfl ⟨rfl, rfl⟩ ⟨Nat.zero_le _, Nat.zero_le _⟩ (s_isWithin v 2 ⟨by omega, by omega⟩ ⟨by omega, by omega⟩) ?_
  intro r σ' hr; rw [hr.1, hr.2]; clear hr
  exact e_zret dX10_isRule_5 rfl (by split <;> simp) ⟨rfl, Nat.le_refl _⟩ ⟨_, rfl, rfl, rfl⟩

set_option maxHeartbeats 4000000 in
set_option maxRecDepth 100000 in
theorem s_isGiver {X : AX} {d : Nat} {σ : SG} (v : Int) (hv : rg v) (hg : 0 ≤ σ.1 1 6 ∧ σ.1 1 6 ≤ 5) : Ev X 0 0 d mX10_isGiver 0 [some (rv 0), some (iv v)] [] σ (QI (fun r σ' => σ' = σ ∧ r = if 0 ≤ v ∧ v < σ.1 1 6 then 1 else 0)) := by
  obtain ⟨hv1, hv2⟩ := hv
  refine e_iload_n (pc' := 1) dX10_isGiver_0 rfl rfl ?_
  refine e_ifI (pc' := 4) (t := 19) dX10_isGiver_1 (by decide) rfl ⟨by omega, by omega⟩ (fun (c2_1 : (v : Int) < 0) => ?_) (fun (c2_1 : ¬ ((v : Int) < 0)) => ?_)
  · refine e_iconst (pc' := 20) dX10_isGiver_19 rfl ?_
    exact e_zret dX10_isGiver_20 rfl (by decide) ⟨rfl, Nat.le_refl _⟩ ⟨_, rfl, rfl, by first | (rw [if_pos (by omega)]) | (rw [if_neg (by omega)])⟩
  · refine e_iload_n (pc' := 5) dX10_isGiver_4 rfl rfl ?_
    refine e_aload_n (pc' := 6) dX10_isGiver_5 rfl rfl ?_
    refine e_getR (pc' := 9) dX10_isGiver_6 rfl f_10_10 h_0 rfl ?_
    refine e_getI (pc' := 12) (v := (σ.1 1 6)) dX10_isGiver_9 rfl f_10_93 h_1 rfl rfl ?_
    refine e_icmpI (pc' := 15) (t := 19) dX10_isGiver_12 (by decide) rfl ⟨by omega, by omega⟩ ⟨by omega, by omega⟩ (fun (c4_2 : (σ.1 1 6) ≤ (v : Int)) => ?_) (fun (c4_2 : ¬ ((σ.1 1 6) ≤ (v : Int))) => ?_)
    · refine e_iconst (pc' := 20) dX10_isGiver_19 rfl ?_
      exact e_zret dX10_isGiver_20 rfl (by decide) ⟨rfl, Nat.le_refl _⟩ ⟨_, rfl, rfl, by first | (rw [if_pos (by omega)]) | (rw [if_neg (by omega)])⟩
    · refine e_iconst (pc' := 16) dX10_isGiver_15 rfl ?_
      refine e_goto (pc' := 20) dX10_isGiver_16 (by decide) ?_
      exact e_zret dX10_isGiver_20 rfl (by decide) ⟨rfl, Nat.le_refl _⟩ ⟨_, rfl, rfl, by first | (rw [if_pos (by omega)]) | (rw [if_neg (by omega)])⟩

set_option maxHeartbeats 4000000 in
set_option maxRecDepth 100000 in
theorem s_isWork {X : AX} {d : Nat} {σ : SG} (v : Int) (hv : rg v) (hg : 0 ≤ σ.1 1 7 ∧ σ.1 1 7 ≤ 3) : Ev X 0 0 d mX10_isWork 0 [some (rv 0), some (iv v)] [] σ (QI (fun r σ' => σ' = σ ∧ r = if 0 ≤ v ∧ v < σ.1 1 7 then 1 else 0)) := by
  obtain ⟨hv1, hv2⟩ := hv
  refine e_iload_n (pc' := 1) dX10_isWork_0 rfl rfl ?_
  refine e_ifI (pc' := 4) (t := 19) dX10_isWork_1 (by decide) rfl ⟨by omega, by omega⟩ (fun (c2_1 : (v : Int) < 0) => ?_) (fun (c2_1 : ¬ ((v : Int) < 0)) => ?_)
  · refine e_iconst (pc' := 20) dX10_isWork_19 rfl ?_
    exact e_zret dX10_isWork_20 rfl (by decide) ⟨rfl, Nat.le_refl _⟩ ⟨_, rfl, rfl, by first | (rw [if_pos (by omega)]) | (rw [if_neg (by omega)])⟩
  · refine e_iload_n (pc' := 5) dX10_isWork_4 rfl rfl ?_
    refine e_aload_n (pc' := 6) dX10_isWork_5 rfl rfl ?_
    refine e_getR (pc' := 9) dX10_isWork_6 rfl f_10_10 h_0 rfl ?_
    refine e_getI (pc' := 12) (v := (σ.1 1 7)) dX10_isWork_9 rfl f_10_101 h_1 rfl rfl ?_
    refine e_icmpI (pc' := 15) (t := 19) dX10_isWork_12 (by decide) rfl ⟨by omega, by omega⟩ ⟨by omega, by omega⟩ (fun (c4_2 : (σ.1 1 7) ≤ (v : Int)) => ?_) (fun (c4_2 : ¬ ((σ.1 1 7) ≤ (v : Int))) => ?_)
    · refine e_iconst (pc' := 20) dX10_isWork_19 rfl ?_
      exact e_zret dX10_isWork_20 rfl (by decide) ⟨rfl, Nat.le_refl _⟩ ⟨_, rfl, rfl, by first | (rw [if_pos (by omega)]) | (rw [if_neg (by omega)])⟩
    · refine e_iconst (pc' := 16) dX10_isWork_15 rfl ?_
      refine e_goto (pc' := 20) dX10_isWork_16 (by decide) ?_
      exact e_zret dX10_isWork_20 rfl (by decide) ⟨rfl, Nat.le_refl _⟩ ⟨_, rfl, rfl, by first | (rw [if_pos (by omega)]) | (rw [if_neg (by omega)])⟩

set_option maxHeartbeats 4000000 in
set_option maxRecDepth 100000 in
theorem s_isPair {X : AX} {d : Nat} {σ : SG} (g w : Int) (hg0 : rg g) (hw0 : rg w) (hg : 0 ≤ σ.1 1 6 ∧ σ.1 1 6 ≤ 5) (hw : 0 ≤ σ.1 1 7 ∧ σ.1 1 7 ≤ 3) : Ev X 0 0 (d + 1) mX10_isPair 0 [some (rv 0), some (iv g), some (iv w)] [] σ (QI (fun r σ' => σ' = σ ∧ r = if (0 ≤ g ∧ g < σ.1 1 6) ∧ (0 ≤ w ∧ w < σ.1 1 7) then 1 else 0)) := by
  obtain ⟨hg1, hg2⟩ := hg0
  obtain ⟨hw1, hw2⟩ := hw0
  refine e_aload_n (pc' := 1) dX10_isPair_0 rfl rfl ?_
  refine e_iload_n (pc' := 2) dX10_isPair_1 rfl rfl ?_
  refine e_cv1i (pc' := 5) dX10_isPair_2 rfl k_10_178 h_0 rfl (Nat.le_of_ble_eq_true rfl) rfl rfl ⟨rfl, rfl⟩ ⟨Nat.zero_le _, Nat.zero_le _⟩ (s_isGiver g ⟨by omega, by omega⟩ hg) ?_
  intro r σ' hr; rw [hr.1, hr.2]; clear hr
  refine e_ifI (pc' := 8) (t := 20) dX10_isPair_5 (by decide) rfl ⟨by split <;> omega, by split <;> omega⟩ (fun (c2_1 : ((if 0 ≤ g ∧ g < σ.1 1 6 then 1 else 0) : Int) = 0) => ?_) (fun (c2_1 : ¬ (((if 0 ≤ g ∧ g < σ.1 1 6 then 1 else 0) : Int) = 0)) => ?_)
  · refine e_iconst (pc' := 21) dX10_isPair_20 rfl ?_
    exact e_zret dX10_isPair_21 rfl (by decide) ⟨rfl, Nat.le_refl _⟩ ⟨_, rfl, rfl, by split at * <;> split at * <;> first | rfl | omega⟩
  · refine e_aload_n (pc' := 9) dX10_isPair_8 rfl rfl ?_
    refine e_iload_n (pc' := 10) dX10_isPair_9 rfl rfl ?_
    refine e_cv1i (pc' := 13) dX10_isPair_10 rfl k_10_158 h_0 rfl (Nat.le_of_ble_eq_true rfl) rfl rfl ⟨rfl, rfl⟩ ⟨Nat.zero_le _, Nat.zero_le _⟩ (s_isWork w ⟨by omega, by omega⟩ hw) ?_
    intro r σ' hr; rw [hr.1, hr.2]; clear hr
    refine e_ifI (pc' := 16) (t := 20) dX10_isPair_13 (by decide) rfl ⟨by split <;> omega, by split <;> omega⟩ (fun (c4_2 : ((if 0 ≤ w ∧ w < σ.1 1 7 then 1 else 0) : Int) = 0) => ?_) (fun (c4_2 : ¬ (((if 0 ≤ w ∧ w < σ.1 1 7 then 1 else 0) : Int) = 0)) => ?_)
    · refine e_iconst (pc' := 21) dX10_isPair_20 rfl ?_
      exact e_zret dX10_isPair_21 rfl (by decide) ⟨rfl, Nat.le_refl _⟩ ⟨_, rfl, rfl, by split at * <;> split at * <;> first | rfl | omega⟩
    · refine e_iconst (pc' := 17) dX10_isPair_16 rfl ?_
      refine e_goto (pc' := 21) dX10_isPair_17 (by decide) ?_
      exact e_zret dX10_isPair_21 rfl (by decide) ⟨rfl, Nat.le_refl _⟩ ⟨_, rfl, rfl, by split at * <;> split at * <;> first | rfl | omega⟩

set_option maxHeartbeats 4000000 in
set_option maxRecDepth 100000 in
theorem s_givenBy_1 {X : AX} {d : Nat} {σ : SG} (g : Int) (h0 : 0 ≤ g) (h1 : g < 5) : Ev X 0 0 d mX8_givenBy 0 [some (rv 1), some (iv g), none, none] [] σ (QI (fun r σ' => σ' = σ ∧ r = gv (σ.1 6) g)) := by
  refine e_iconst (pc' := 1) dX8_givenBy_0 rfl ?_
  refine e_istore_n (pc' := 2) (L' := [some (rv 1), some (iv g), some (iv 0), none]) dX8_givenBy_1 rfl (by decide) rfl ?_
  refine e_iconst (pc' := 3) dX8_givenBy_2 rfl ?_
  refine e_istore_n (pc' := 4) (L' := [some (rv 1), some (iv g), some (iv 0), some (iv 0)]) dX8_givenBy_3 rfl (by decide) rfl ?_
  refine e_iload_n (pc' := 5) dX8_givenBy_4 rfl rfl ?_
  refine e_iconst (pc' := 6) dX8_givenBy_5 rfl ?_
  refine e_icmpI (pc' := 9) (t := 28) dX8_givenBy_6 (by decide) rfl ⟨by omega, by omega⟩ ⟨by omega, by omega⟩ (fun c2_1 => absurd (show 3 ≤ (0 : Int) from c2_1) (by decide)) (fun _ => ?_)
  refine e_iload_n (pc' := 10) dX8_givenBy_9 rfl rfl ?_
  refine e_aload_n (pc' := 11) dX8_givenBy_10 rfl rfl ?_
  refine e_getR (pc' := 14) dX8_givenBy_11 rfl f_8_24 h_1 rfl ?_
  refine e_iload_n (pc' := 15) dX8_givenBy_14 rfl rfl ?_
  refine e_iconst (pc' := 16) dX8_givenBy_15 rfl ?_
  refine e_imul (pc' := 17) dX8_givenBy_16 rfl ?_
  refine e_iload_n (pc' := 18) dX8_givenBy_17 rfl rfl ?_
  refine e_iadd (pc' := 19) dX8_givenBy_18 rfl ?_
  refine e_iald (pc' := 20) (v := (σ.1 6 ((g * 3) + 0))) dX8_givenBy_19 rfl h_6 (by decide) (by omega) (by omega) rfl ?_
  refine e_iadd (pc' := 21) dX8_givenBy_20 rfl ?_
  refine e_istore_n (pc' := 22) (L' := [some (rv 1), some (iv g), some (iv (0 + (σ.1 6 ((g * 3) + 0)))), some (iv 0)]) dX8_givenBy_21 rfl (by decide) rfl ?_
  refine e_iinc (pc' := 25) (L' := [some (rv 1), some (iv g), some (iv (0 + (σ.1 6 ((g * 3) + 0)))), some (iv 1)]) dX8_givenBy_22 rfl rfl (by decide) rfl ?_
  refine e_goto (pc' := 4) dX8_givenBy_25 (by decide) ?_
  refine e_iload_n (pc' := 5) dX8_givenBy_4 rfl rfl ?_
  refine e_iconst (pc' := 6) dX8_givenBy_5 rfl ?_
  refine e_icmpI (pc' := 9) (t := 28) dX8_givenBy_6 (by decide) rfl ⟨by omega, by omega⟩ ⟨by omega, by omega⟩ (fun c2_2 => absurd (show 3 ≤ (1 : Int) from c2_2) (by decide)) (fun _ => ?_)
  refine e_iload_n (pc' := 10) dX8_givenBy_9 rfl rfl ?_
  refine e_aload_n (pc' := 11) dX8_givenBy_10 rfl rfl ?_
  refine e_getR (pc' := 14) dX8_givenBy_11 rfl f_8_24 h_1 rfl ?_
  refine e_iload_n (pc' := 15) dX8_givenBy_14 rfl rfl ?_
  refine e_iconst (pc' := 16) dX8_givenBy_15 rfl ?_
  refine e_imul (pc' := 17) dX8_givenBy_16 rfl ?_
  refine e_iload_n (pc' := 18) dX8_givenBy_17 rfl rfl ?_
  refine e_iadd (pc' := 19) dX8_givenBy_18 rfl ?_
  refine e_iald (pc' := 20) (v := (σ.1 6 ((g * 3) + 1))) dX8_givenBy_19 rfl h_6 (by decide) (by omega) (by omega) rfl ?_
  refine e_iadd (pc' := 21) dX8_givenBy_20 rfl ?_
  refine e_istore_n (pc' := 22) (L' := [some (rv 1), some (iv g), some (iv ((0 + (σ.1 6 ((g * 3) + 0))) + (σ.1 6 ((g * 3) + 1)))), some (iv 1)]) dX8_givenBy_21 rfl (by decide) rfl ?_
  refine e_iinc (pc' := 25) (L' := [some (rv 1), some (iv g), some (iv ((0 + (σ.1 6 ((g * 3) + 0))) + (σ.1 6 ((g * 3) + 1)))), some (iv 2)]) dX8_givenBy_22 rfl rfl (by decide) rfl ?_
  refine e_goto (pc' := 4) dX8_givenBy_25 (by decide) ?_
  refine e_iload_n (pc' := 5) dX8_givenBy_4 rfl rfl ?_
  refine e_iconst (pc' := 6) dX8_givenBy_5 rfl ?_
  refine e_icmpI (pc' := 9) (t := 28) dX8_givenBy_6 (by decide) rfl ⟨by omega, by omega⟩ ⟨by omega, by omega⟩ (fun c2_3 => absurd (show 3 ≤ (2 : Int) from c2_3) (by decide)) (fun _ => ?_)
  refine e_iload_n (pc' := 10) dX8_givenBy_9 rfl rfl ?_
  refine e_aload_n (pc' := 11) dX8_givenBy_10 rfl rfl ?_
  refine e_getR (pc' := 14) dX8_givenBy_11 rfl f_8_24 h_1 rfl ?_
  refine e_iload_n (pc' := 15) dX8_givenBy_14 rfl rfl ?_
  refine e_iconst (pc' := 16) dX8_givenBy_15 rfl ?_
  refine e_imul (pc' := 17) dX8_givenBy_16 rfl ?_
  refine e_iload_n (pc' := 18) dX8_givenBy_17 rfl rfl ?_
  refine e_iadd (pc' := 19) dX8_givenBy_18 rfl ?_
  refine e_iald (pc' := 20) (v := (σ.1 6 ((g * 3) + 2))) dX8_givenBy_19 rfl h_6 (by decide) (by omega) (by omega) rfl ?_
  refine e_iadd (pc' := 21) dX8_givenBy_20 rfl ?_
  refine e_istore_n (pc' := 22) (L' := [some (rv 1), some (iv g), some (iv (((0 + (σ.1 6 ((g * 3) + 0))) + (σ.1 6 ((g * 3) + 1))) + (σ.1 6 ((g * 3) + 2)))), some (iv 2)]) dX8_givenBy_21 rfl (by decide) rfl ?_
  refine e_iinc (pc' := 25) (L' := [some (rv 1), some (iv g), some (iv (((0 + (σ.1 6 ((g * 3) + 0))) + (σ.1 6 ((g * 3) + 1))) + (σ.1 6 ((g * 3) + 2)))), some (iv 3)]) dX8_givenBy_22 rfl rfl (by decide) rfl ?_
  refine e_goto (pc' := 4) dX8_givenBy_25 (by decide) ?_
  refine e_iload_n (pc' := 5) dX8_givenBy_4 rfl rfl ?_
  refine e_iconst (pc' := 6) dX8_givenBy_5 rfl ?_
  refine e_icmpI (pc' := 9) (t := 28) dX8_givenBy_6 (by decide) rfl ⟨by omega, by omega⟩ ⟨by omega, by omega⟩ (fun _ => ?_) (fun c2_4 => absurd (show 3 ≤ (3 : Int) by decide) c2_4)
  refine e_iload_n (pc' := 29) dX8_givenBy_28 rfl rfl ?_
  exact e_iret dX8_givenBy_29 rfl ⟨rfl, Nat.le_refl _⟩ ⟨_, rfl, rfl, by unfold gv; omega⟩

set_option maxHeartbeats 4000000 in
set_option maxRecDepth 100000 in
theorem s_keptBy_1 {X : AX} {d : Nat} {σ : SG} (g : Int) (h0 : 0 ≤ g) (h1 : g < 5) : Ev X 0 0 (d + 1) mX8_keptBy 0 [some (rv 1), some (iv g)] [] σ (QI (fun r σ' => σ' = σ ∧ r = σ.1 2 g - gv (σ.1 6) g)) := by
  refine e_aload_n (pc' := 1) dX8_keptBy_0 rfl rfl ?_
  refine e_getR (pc' := 4) dX8_keptBy_1 rfl f_8_9 h_1 rfl ?_
  refine e_iload_n (pc' := 5) dX8_keptBy_4 rfl rfl ?_
  refine e_iald (pc' := 6) (v := (σ.1 2 g)) dX8_keptBy_5 rfl h_2 (by decide) (by omega) (by omega) rfl ?_
  refine e_aload_n (pc' := 7) dX8_keptBy_6 rfl rfl ?_
  refine e_iload_n (pc' := 8) dX8_keptBy_7 rfl rfl ?_
  refine e_cv1i (pc' := 11) dX8_keptBy_8 rfl k_8_67 h_1 rfl (Nat.le_of_ble_eq_true rfl) rfl rfl ⟨rfl, rfl⟩ ⟨Nat.zero_le _, Nat.zero_le _⟩ (s_givenBy_1 g (by omega) (by omega)) ?_
  intro r σ' hr; rw [hr.1, hr.2]; clear hr
  refine e_isub (pc' := 12) dX8_keptBy_11 rfl ?_
  exact e_iret dX8_keptBy_12 rfl ⟨rfl, Nat.le_refl _⟩ ⟨_, rfl, rfl, rfl⟩

set_option maxHeartbeats 4000000 in
set_option maxRecDepth 100000 in
theorem l_givenTo_1 {X : AX} {d : Nat} {σ : SG} (hg : 0 ≤ σ.1 1 6 ∧ σ.1 1 6 ≤ 5) (w : Int) (hw : 0 ≤ w ∧ w < 3) : ∀ (k : Nat) (cs i : Int), 0 ≤ i → i ≤ σ.1 1 6 → σ.1 1 6 - i < k → cs = smI (fun g => σ.1 6 (g * 3 + w)) i → Ev X 0 0 d mX8_givenTo 4 [some (rv 1), some (iv w), some (iv cs), some (iv i)] [] σ (QI (fun r σ' => σ' = σ ∧ r = smI (fun g => σ.1 6 (g * 3 + w)) (σ.1 1 6))) := by
  intro k
  induction k with
  | zero => intros; omega
  | succ k ih =>
  intro cs i hi0 hi1 hik hc
  refine e_iload_n (pc' := 5) dX8_givenTo_4 rfl rfl ?_
  refine e_aload_n (pc' := 6) dX8_givenTo_5 rfl rfl ?_
  refine e_getI (pc' := 9) (v := (σ.1 1 6)) dX8_givenTo_6 rfl f_8_33 h_1 rfl rfl ?_
  refine e_icmpI (pc' := 12) (t := 31) dX8_givenTo_9 (by decide) rfl ⟨by omega, by omega⟩ ⟨by omega, by omega⟩ (fun (c2_1 : (σ.1 1 6) ≤ (i : Int)) => ?_) (fun (c2_1 : ¬ ((σ.1 1 6) ≤ (i : Int))) => ?_)
  · refine e_iload_n (pc' := 32) dX8_givenTo_31 rfl rfl ?_
    exact e_iret dX8_givenTo_32 rfl ⟨rfl, Nat.le_refl _⟩ ⟨_, rfl, rfl, by rw [hc]; congr 1; omega⟩
  · refine e_iload_n (pc' := 13) dX8_givenTo_12 rfl rfl ?_
    refine e_aload_n (pc' := 14) dX8_givenTo_13 rfl rfl ?_
    refine e_getR (pc' := 17) dX8_givenTo_14 rfl f_8_24 h_1 rfl ?_
    refine e_iload_n (pc' := 18) dX8_givenTo_17 rfl rfl ?_
    refine e_iconst (pc' := 19) dX8_givenTo_18 rfl ?_
    refine e_imul (pc' := 20) dX8_givenTo_19 rfl ?_
    refine e_iload_n (pc' := 21) dX8_givenTo_20 rfl rfl ?_
    refine e_iadd (pc' := 22) dX8_givenTo_21 rfl ?_
    refine e_iald (pc' := 23) (v := (σ.1 6 ((i * 3) + w))) dX8_givenTo_22 rfl h_6 (by decide) (by omega) (by omega) rfl ?_
    refine e_iadd (pc' := 24) dX8_givenTo_23 rfl ?_
    refine e_istore_n (pc' := 25) (L' := [some (rv 1), some (iv w), some (iv (cs + (σ.1 6 ((i * 3) + w)))), some (iv i)]) dX8_givenTo_24 rfl (by decide) rfl ?_
    refine e_iinc (pc' := 28) (L' := [some (rv 1), some (iv w), some (iv (cs + (σ.1 6 ((i * 3) + w)))), some (iv (i + 1))]) dX8_givenTo_25 rfl rfl (by decide) rfl ?_
    refine e_goto (pc' := 4) dX8_givenTo_28 (by decide) ?_
    exact ih _ _ (by omega) (by omega) (by omega) (by rw [smI_s _ (by omega)]; first | rfl | (rw [hc]) | omega)

set_option maxHeartbeats 4000000 in
set_option maxRecDepth 100000 in
theorem s_givenTo_1 {X : AX} {d : Nat} {σ : SG} (hg : 0 ≤ σ.1 1 6 ∧ σ.1 1 6 ≤ 5) (w : Int) (hw : 0 ≤ w ∧ w < 3) : Ev X 0 0 d mX8_givenTo 0 [some (rv 1), some (iv w), none, none] [] σ (QI (fun r σ' => σ' = σ ∧ r = smI (fun g => σ.1 6 (g * 3 + w)) (σ.1 1 6))) := by
  refine e_iconst (pc' := 1) dX8_givenTo_0 rfl ?_
  refine e_istore_n (pc' := 2) (L' := [some (rv 1), some (iv w), some (iv 0), none]) dX8_givenTo_1 rfl (by decide) rfl ?_
  refine e_iconst (pc' := 3) dX8_givenTo_2 rfl ?_
  refine e_istore_n (pc' := 4) (L' := [some (rv 1), some (iv w), some (iv 0), some (iv 0)]) dX8_givenTo_3 rfl (by decide) rfl ?_
  exact l_givenTo_1 hg w hw (σ.1 1 6 + 1).toNat _ _ (by omega) (by omega) (by omega) rfl

set_option maxHeartbeats 4000000 in
set_option maxRecDepth 100000 in
theorem l_givenInAll_1 {X : AX} {d : Nat} {σ : SG} (hg : 0 ≤ σ.1 1 6 ∧ σ.1 1 6 ≤ 5) : ∀ (k : Nat) (cs i : Int), 0 ≤ i → i ≤ σ.1 1 6 → σ.1 1 6 - i < k → cs = smI (fun g => gv (σ.1 6) g) i → Ev X 0 0 (d + 1) mX8_givenInAll 4 [some (rv 1), some (iv cs), some (iv i)] [] σ (QI (fun r σ' => σ' = σ ∧ r = smI (fun g => gv (σ.1 6) g) (σ.1 1 6))) := by
  intro k
  induction k with
  | zero => intros; omega
  | succ k ih =>
  intro cs i hi0 hi1 hik hc
  refine e_iload_n (pc' := 5) dX8_givenInAll_4 rfl rfl ?_
  refine e_aload_n (pc' := 6) dX8_givenInAll_5 rfl rfl ?_
  refine e_getI (pc' := 9) (v := (σ.1 1 6)) dX8_givenInAll_6 rfl f_8_33 h_1 rfl rfl ?_
  refine e_icmpI (pc' := 12) (t := 26) dX8_givenInAll_9 (by decide) rfl ⟨by omega, by omega⟩ ⟨by omega, by omega⟩ (fun (c2_1 : (σ.1 1 6) ≤ (i : Int)) => ?_) (fun (c2_1 : ¬ ((σ.1 1 6) ≤ (i : Int))) => ?_)
  · refine e_iload_n (pc' := 27) dX8_givenInAll_26 rfl rfl ?_
    exact e_iret dX8_givenInAll_27 rfl ⟨rfl, Nat.le_refl _⟩ ⟨_, rfl, rfl, by rw [hc]; congr 1; omega⟩
  · refine e_iload_n (pc' := 13) dX8_givenInAll_12 rfl rfl ?_
    refine e_aload_n (pc' := 14) dX8_givenInAll_13 rfl rfl ?_
    refine e_iload_n (pc' := 15) dX8_givenInAll_14 rfl rfl ?_
    refine e_cv1i (pc' := 18) dX8_givenInAll_15 rfl k_8_67 h_1 rfl (Nat.le_of_ble_eq_true rfl) rfl rfl ⟨rfl, rfl⟩ ⟨Nat.zero_le _, Nat.zero_le _⟩ (s_givenBy_1 i (by omega) (by omega)) ?_
    intro r σ' hr; rw [hr.1, hr.2]; clear hr
    refine e_iadd (pc' := 19) dX8_givenInAll_18 rfl ?_
    refine e_istore_n (pc' := 20) (L' := [some (rv 1), some (iv (cs + (gv (σ.1 6) i))), some (iv i)]) dX8_givenInAll_19 rfl (by decide) rfl ?_
    refine e_iinc (pc' := 23) (L' := [some (rv 1), some (iv (cs + (gv (σ.1 6) i))), some (iv (i + 1))]) dX8_givenInAll_20 rfl rfl (by decide) rfl ?_
    refine e_goto (pc' := 4) dX8_givenInAll_23 (by decide) ?_
    exact ih _ _ (by omega) (by omega) (by omega) (by rw [smI_s _ (by omega)]; first | rfl | (rw [hc]) | omega)

set_option maxHeartbeats 4000000 in
set_option maxRecDepth 100000 in
theorem s_givenInAll_1 {X : AX} {d : Nat} {σ : SG} (hg : 0 ≤ σ.1 1 6 ∧ σ.1 1 6 ≤ 5) : Ev X 0 0 (d + 1) mX8_givenInAll 0 [some (rv 1), none, none] [] σ (QI (fun r σ' => σ' = σ ∧ r = smI (fun g => gv (σ.1 6) g) (σ.1 1 6))) := by
  refine e_iconst (pc' := 1) dX8_givenInAll_0 rfl ?_
  refine e_istore_n (pc' := 2) (L' := [some (rv 1), some (iv 0), none]) dX8_givenInAll_1 rfl (by decide) rfl ?_
  refine e_iconst (pc' := 3) dX8_givenInAll_2 rfl ?_
  refine e_istore_n (pc' := 4) (L' := [some (rv 1), some (iv 0), some (iv 0)]) dX8_givenInAll_3 rfl (by decide) rfl ?_
  exact l_givenInAll_1 hg (σ.1 1 6 + 1).toNat _ _ (by omega) (by omega) (by omega) rfl

set_option maxHeartbeats 4000000 in
set_option maxRecDepth 100000 in
theorem l_coinInAll_1 {X : AX} {d : Nat} {σ : SG} (hg : 0 ≤ σ.1 1 6 ∧ σ.1 1 6 ≤ 5) : ∀ (k : Nat) (cs i : Int), 0 ≤ i → i ≤ σ.1 1 6 → σ.1 1 6 - i < k → cs = smI (σ.1 2) i → Ev X 0 0 d mX8_coinInAll 4 [some (rv 1), some (iv cs), some (iv i)] [] σ (QI (fun r σ' => σ' = σ ∧ r = smI (σ.1 2) (σ.1 1 6))) := by
  intro k
  induction k with
  | zero => intros; omega
  | succ k ih =>
  intro cs i hi0 hi1 hik hc
  refine e_iload_n (pc' := 5) dX8_coinInAll_4 rfl rfl ?_
  refine e_aload_n (pc' := 6) dX8_coinInAll_5 rfl rfl ?_
  refine e_getI (pc' := 9) (v := (σ.1 1 6)) dX8_coinInAll_6 rfl f_8_33 h_1 rfl rfl ?_
  refine e_icmpI (pc' := 12) (t := 27) dX8_coinInAll_9 (by decide) rfl ⟨by omega, by omega⟩ ⟨by omega, by omega⟩ (fun (c2_1 : (σ.1 1 6) ≤ (i : Int)) => ?_) (fun (c2_1 : ¬ ((σ.1 1 6) ≤ (i : Int))) => ?_)
  · refine e_iload_n (pc' := 28) dX8_coinInAll_27 rfl rfl ?_
    exact e_iret dX8_coinInAll_28 rfl ⟨rfl, Nat.le_refl _⟩ ⟨_, rfl, rfl, by rw [hc]; congr 1; omega⟩
  · refine e_iload_n (pc' := 13) dX8_coinInAll_12 rfl rfl ?_
    refine e_aload_n (pc' := 14) dX8_coinInAll_13 rfl rfl ?_
    refine e_getR (pc' := 17) dX8_coinInAll_14 rfl f_8_9 h_1 rfl ?_
    refine e_iload_n (pc' := 18) dX8_coinInAll_17 rfl rfl ?_
    refine e_iald (pc' := 19) (v := (σ.1 2 i)) dX8_coinInAll_18 rfl h_2 (by decide) (by omega) (by omega) rfl ?_
    refine e_iadd (pc' := 20) dX8_coinInAll_19 rfl ?_
    refine e_istore_n (pc' := 21) (L' := [some (rv 1), some (iv (cs + (σ.1 2 i))), some (iv i)]) dX8_coinInAll_20 rfl (by decide) rfl ?_
    refine e_iinc (pc' := 24) (L' := [some (rv 1), some (iv (cs + (σ.1 2 i))), some (iv (i + 1))]) dX8_coinInAll_21 rfl rfl (by decide) rfl ?_
    refine e_goto (pc' := 4) dX8_coinInAll_24 (by decide) ?_
    exact ih _ _ (by omega) (by omega) (by omega) (by rw [smI_s _ (by omega)]; first | rfl | (rw [hc]) | omega)

set_option maxHeartbeats 4000000 in
set_option maxRecDepth 100000 in
theorem s_coinInAll_1 {X : AX} {d : Nat} {σ : SG} (hg : 0 ≤ σ.1 1 6 ∧ σ.1 1 6 ≤ 5) : Ev X 0 0 d mX8_coinInAll 0 [some (rv 1), none, none] [] σ (QI (fun r σ' => σ' = σ ∧ r = smI (σ.1 2) (σ.1 1 6))) := by
  refine e_iconst (pc' := 1) dX8_coinInAll_0 rfl ?_
  refine e_istore_n (pc' := 2) (L' := [some (rv 1), some (iv 0), none]) dX8_coinInAll_1 rfl (by decide) rfl ?_
  refine e_iconst (pc' := 3) dX8_coinInAll_2 rfl ?_
  refine e_istore_n (pc' := 4) (L' := [some (rv 1), some (iv 0), some (iv 0)]) dX8_coinInAll_3 rfl (by decide) rfl ?_
  exact l_coinInAll_1 hg (σ.1 1 6 + 1).toNat _ _ (by omega) (by omega) (by omega) rfl

set_option maxHeartbeats 4000000 in
set_option maxRecDepth 100000 in
theorem s_givenBy_17 {X : AX} {d : Nat} {σ : SG} (g : Int) (h0 : 0 ≤ g) (h1 : g < 5) : Ev X 0 0 d mX8_givenBy 0 [some (rv 17), some (iv g), none, none] [] σ (QI (fun r σ' => σ' = σ ∧ r = gv (σ.1 22) g)) := by
  refine e_iconst (pc' := 1) dX8_givenBy_0 rfl ?_
  refine e_istore_n (pc' := 2) (L' := [some (rv 17), some (iv g), some (iv 0), none]) dX8_givenBy_1 rfl (by decide) rfl ?_
  refine e_iconst (pc' := 3) dX8_givenBy_2 rfl ?_
  refine e_istore_n (pc' := 4) (L' := [some (rv 17), some (iv g), some (iv 0), some (iv 0)]) dX8_givenBy_3 rfl (by decide) rfl ?_
  refine e_iload_n (pc' := 5) dX8_givenBy_4 rfl rfl ?_
  refine e_iconst (pc' := 6) dX8_givenBy_5 rfl ?_
  refine e_icmpI (pc' := 9) (t := 28) dX8_givenBy_6 (by decide) rfl ⟨by omega, by omega⟩ ⟨by omega, by omega⟩ (fun c2_1 => absurd (show 3 ≤ (0 : Int) from c2_1) (by decide)) (fun _ => ?_)
  refine e_iload_n (pc' := 10) dX8_givenBy_9 rfl rfl ?_
  refine e_aload_n (pc' := 11) dX8_givenBy_10 rfl rfl ?_
  refine e_getR (pc' := 14) dX8_givenBy_11 rfl f_8_24 h_17 rfl ?_
  refine e_iload_n (pc' := 15) dX8_givenBy_14 rfl rfl ?_
  refine e_iconst (pc' := 16) dX8_givenBy_15 rfl ?_
  refine e_imul (pc' := 17) dX8_givenBy_16 rfl ?_
  refine e_iload_n (pc' := 18) dX8_givenBy_17 rfl rfl ?_
  refine e_iadd (pc' := 19) dX8_givenBy_18 rfl ?_
  refine e_iald (pc' := 20) (v := (σ.1 22 ((g * 3) + 0))) dX8_givenBy_19 rfl h_22 (by decide) (by omega) (by omega) rfl ?_
  refine e_iadd (pc' := 21) dX8_givenBy_20 rfl ?_
  refine e_istore_n (pc' := 22) (L' := [some (rv 17), some (iv g), some (iv (0 + (σ.1 22 ((g * 3) + 0)))), some (iv 0)]) dX8_givenBy_21 rfl (by decide) rfl ?_
  refine e_iinc (pc' := 25) (L' := [some (rv 17), some (iv g), some (iv (0 + (σ.1 22 ((g * 3) + 0)))), some (iv 1)]) dX8_givenBy_22 rfl rfl (by decide) rfl ?_
  refine e_goto (pc' := 4) dX8_givenBy_25 (by decide) ?_
  refine e_iload_n (pc' := 5) dX8_givenBy_4 rfl rfl ?_
  refine e_iconst (pc' := 6) dX8_givenBy_5 rfl ?_
  refine e_icmpI (pc' := 9) (t := 28) dX8_givenBy_6 (by decide) rfl ⟨by omega, by omega⟩ ⟨by omega, by omega⟩ (fun c2_2 => absurd (show 3 ≤ (1 : Int) from c2_2) (by decide)) (fun _ => ?_)
  refine e_iload_n (pc' := 10) dX8_givenBy_9 rfl rfl ?_
  refine e_aload_n (pc' := 11) dX8_givenBy_10 rfl rfl ?_
  refine e_getR (pc' := 14) dX8_givenBy_11 rfl f_8_24 h_17 rfl ?_
  refine e_iload_n (pc' := 15) dX8_givenBy_14 rfl rfl ?_
  refine e_iconst (pc' := 16) dX8_givenBy_15 rfl ?_
  refine e_imul (pc' := 17) dX8_givenBy_16 rfl ?_
  refine e_iload_n (pc' := 18) dX8_givenBy_17 rfl rfl ?_
  refine e_iadd (pc' := 19) dX8_givenBy_18 rfl ?_
  refine e_iald (pc' := 20) (v := (σ.1 22 ((g * 3) + 1))) dX8_givenBy_19 rfl h_22 (by decide) (by omega) (by omega) rfl ?_
  refine e_iadd (pc' := 21) dX8_givenBy_20 rfl ?_
  refine e_istore_n (pc' := 22) (L' := [some (rv 17), some (iv g), some (iv ((0 + (σ.1 22 ((g * 3) + 0))) + (σ.1 22 ((g * 3) + 1)))), some (iv 1)]) dX8_givenBy_21 rfl (by decide) rfl ?_
  refine e_iinc (pc' := 25) (L' := [some (rv 17), some (iv g), some (iv ((0 + (σ.1 22 ((g * 3) + 0))) + (σ.1 22 ((g * 3) + 1)))), some (iv 2)]) dX8_givenBy_22 rfl rfl (by decide) rfl ?_
  refine e_goto (pc' := 4) dX8_givenBy_25 (by decide) ?_
  refine e_iload_n (pc' := 5) dX8_givenBy_4 rfl rfl ?_
  refine e_iconst (pc' := 6) dX8_givenBy_5 rfl ?_
  refine e_icmpI (pc' := 9) (t := 28) dX8_givenBy_6 (by decide) rfl ⟨by omega, by omega⟩ ⟨by omega, by omega⟩ (fun c2_3 => absurd (show 3 ≤ (2 : Int) from c2_3) (by decide)) (fun _ => ?_)
  refine e_iload_n (pc' := 10) dX8_givenBy_9 rfl rfl ?_
  refine e_aload_n (pc' := 11) dX8_givenBy_10 rfl rfl ?_
  refine e_getR (pc' := 14) dX8_givenBy_11 rfl f_8_24 h_17 rfl ?_
  refine e_iload_n (pc' := 15) dX8_givenBy_14 rfl rfl ?_
  refine e_iconst (pc' := 16) dX8_givenBy_15 rfl ?_
  refine e_imul (pc' := 17) dX8_givenBy_16 rfl ?_
  refine e_iload_n (pc' := 18) dX8_givenBy_17 rfl rfl ?_
  refine e_iadd (pc' := 19) dX8_givenBy_18 rfl ?_
  refine e_iald (pc' := 20) (v := (σ.1 22 ((g * 3) + 2))) dX8_givenBy_19 rfl h_22 (by decide) (by omega) (by omega) rfl ?_
  refine e_iadd (pc' := 21) dX8_givenBy_20 rfl ?_
  refine e_istore_n (pc' := 22) (L' := [some (rv 17), some (iv g), some (iv (((0 + (σ.1 22 ((g * 3) + 0))) + (σ.1 22 ((g * 3) + 1))) + (σ.1 22 ((g * 3) + 2)))), some (iv 2)]) dX8_givenBy_21 rfl (by decide) rfl ?_
  refine e_iinc (pc' := 25) (L' := [some (rv 17), some (iv g), some (iv (((0 + (σ.1 22 ((g * 3) + 0))) + (σ.1 22 ((g * 3) + 1))) + (σ.1 22 ((g * 3) + 2)))), some (iv 3)]) dX8_givenBy_22 rfl rfl (by decide) rfl ?_
  refine e_goto (pc' := 4) dX8_givenBy_25 (by decide) ?_
  refine e_iload_n (pc' := 5) dX8_givenBy_4 rfl rfl ?_
  refine e_iconst (pc' := 6) dX8_givenBy_5 rfl ?_
  refine e_icmpI (pc' := 9) (t := 28) dX8_givenBy_6 (by decide) rfl ⟨by omega, by omega⟩ ⟨by omega, by omega⟩ (fun _ => ?_) (fun c2_4 => absurd (show 3 ≤ (3 : Int) by decide) c2_4)
  refine e_iload_n (pc' := 29) dX8_givenBy_28 rfl rfl ?_
  exact e_iret dX8_givenBy_29 rfl ⟨rfl, Nat.le_refl _⟩ ⟨_, rfl, rfl, by unfold gv; omega⟩

set_option maxHeartbeats 4000000 in
set_option maxRecDepth 100000 in
theorem s_keptBy_17 {X : AX} {d : Nat} {σ : SG} (g : Int) (h0 : 0 ≤ g) (h1 : g < 5) : Ev X 0 0 (d + 1) mX8_keptBy 0 [some (rv 17), some (iv g)] [] σ (QI (fun r σ' => σ' = σ ∧ r = σ.1 18 g - gv (σ.1 22) g)) := by
  refine e_aload_n (pc' := 1) dX8_keptBy_0 rfl rfl ?_
  refine e_getR (pc' := 4) dX8_keptBy_1 rfl f_8_9 h_17 rfl ?_
  refine e_iload_n (pc' := 5) dX8_keptBy_4 rfl rfl ?_
  refine e_iald (pc' := 6) (v := (σ.1 18 g)) dX8_keptBy_5 rfl h_18 (by decide) (by omega) (by omega) rfl ?_
  refine e_aload_n (pc' := 7) dX8_keptBy_6 rfl rfl ?_
  refine e_iload_n (pc' := 8) dX8_keptBy_7 rfl rfl ?_
  refine e_cv1i (pc' := 11) dX8_keptBy_8 rfl k_8_67 h_17 rfl (Nat.le_of_ble_eq_true rfl) rfl rfl ⟨rfl, rfl⟩ ⟨Nat.zero_le _, Nat.zero_le _⟩ (s_givenBy_17 g (by omega) (by omega)) ?_
  intro r σ' hr; rw [hr.1, hr.2]; clear hr
  refine e_isub (pc' := 12) dX8_keptBy_11 rfl ?_
  exact e_iret dX8_keptBy_12 rfl ⟨rfl, Nat.le_refl _⟩ ⟨_, rfl, rfl, rfl⟩

set_option maxHeartbeats 4000000 in
set_option maxRecDepth 100000 in
theorem l_givenTo_17 {X : AX} {d : Nat} {σ : SG} (hg : 0 ≤ σ.1 17 6 ∧ σ.1 17 6 ≤ 5) (w : Int) (hw : 0 ≤ w ∧ w < 3) : ∀ (k : Nat) (cs i : Int), 0 ≤ i → i ≤ σ.1 17 6 → σ.1 17 6 - i < k → cs = smI (fun g => σ.1 22 (g * 3 + w)) i → Ev X 0 0 d mX8_givenTo 4 [some (rv 17), some (iv w), some (iv cs), some (iv i)] [] σ (QI (fun r σ' => σ' = σ ∧ r = smI (fun g => σ.1 22 (g * 3 + w)) (σ.1 17 6))) := by
  intro k
  induction k with
  | zero => intros; omega
  | succ k ih =>
  intro cs i hi0 hi1 hik hc
  refine e_iload_n (pc' := 5) dX8_givenTo_4 rfl rfl ?_
  refine e_aload_n (pc' := 6) dX8_givenTo_5 rfl rfl ?_
  refine e_getI (pc' := 9) (v := (σ.1 17 6)) dX8_givenTo_6 rfl f_8_33 h_17 rfl rfl ?_
  refine e_icmpI (pc' := 12) (t := 31) dX8_givenTo_9 (by decide) rfl ⟨by omega, by omega⟩ ⟨by omega, by omega⟩ (fun (c2_1 : (σ.1 17 6) ≤ (i : Int)) => ?_) (fun (c2_1 : ¬ ((σ.1 17 6) ≤ (i : Int))) => ?_)
  · refine e_iload_n (pc' := 32) dX8_givenTo_31 rfl rfl ?_
    exact e_iret dX8_givenTo_32 rfl ⟨rfl, Nat.le_refl _⟩ ⟨_, rfl, rfl, by rw [hc]; congr 1; omega⟩
  · refine e_iload_n (pc' := 13) dX8_givenTo_12 rfl rfl ?_
    refine e_aload_n (pc' := 14) dX8_givenTo_13 rfl rfl ?_
    refine e_getR (pc' := 17) dX8_givenTo_14 rfl f_8_24 h_17 rfl ?_
    refine e_iload_n (pc' := 18) dX8_givenTo_17 rfl rfl ?_
    refine e_iconst (pc' := 19) dX8_givenTo_18 rfl ?_
    refine e_imul (pc' := 20) dX8_givenTo_19 rfl ?_
    refine e_iload_n (pc' := 21) dX8_givenTo_20 rfl rfl ?_
    refine e_iadd (pc' := 22) dX8_givenTo_21 rfl ?_
    refine e_iald (pc' := 23) (v := (σ.1 22 ((i * 3) + w))) dX8_givenTo_22 rfl h_22 (by decide) (by omega) (by omega) rfl ?_
    refine e_iadd (pc' := 24) dX8_givenTo_23 rfl ?_
    refine e_istore_n (pc' := 25) (L' := [some (rv 17), some (iv w), some (iv (cs + (σ.1 22 ((i * 3) + w)))), some (iv i)]) dX8_givenTo_24 rfl (by decide) rfl ?_
    refine e_iinc (pc' := 28) (L' := [some (rv 17), some (iv w), some (iv (cs + (σ.1 22 ((i * 3) + w)))), some (iv (i + 1))]) dX8_givenTo_25 rfl rfl (by decide) rfl ?_
    refine e_goto (pc' := 4) dX8_givenTo_28 (by decide) ?_
    exact ih _ _ (by omega) (by omega) (by omega) (by rw [smI_s _ (by omega)]; first | rfl | (rw [hc]) | omega)

set_option maxHeartbeats 4000000 in
set_option maxRecDepth 100000 in
theorem s_givenTo_17 {X : AX} {d : Nat} {σ : SG} (hg : 0 ≤ σ.1 17 6 ∧ σ.1 17 6 ≤ 5) (w : Int) (hw : 0 ≤ w ∧ w < 3) : Ev X 0 0 d mX8_givenTo 0 [some (rv 17), some (iv w), none, none] [] σ (QI (fun r σ' => σ' = σ ∧ r = smI (fun g => σ.1 22 (g * 3 + w)) (σ.1 17 6))) := by
  refine e_iconst (pc' := 1) dX8_givenTo_0 rfl ?_
  refine e_istore_n (pc' := 2) (L' := [some (rv 17), some (iv w), some (iv 0), none]) dX8_givenTo_1 rfl (by decide) rfl ?_
  refine e_iconst (pc' := 3) dX8_givenTo_2 rfl ?_
  refine e_istore_n (pc' := 4) (L' := [some (rv 17), some (iv w), some (iv 0), some (iv 0)]) dX8_givenTo_3 rfl (by decide) rfl ?_
  exact l_givenTo_17 hg w hw (σ.1 17 6 + 1).toNat _ _ (by omega) (by omega) (by omega) rfl

set_option maxHeartbeats 4000000 in
set_option maxRecDepth 100000 in
theorem l_givenInAll_17 {X : AX} {d : Nat} {σ : SG} (hg : 0 ≤ σ.1 17 6 ∧ σ.1 17 6 ≤ 5) : ∀ (k : Nat) (cs i : Int), 0 ≤ i → i ≤ σ.1 17 6 → σ.1 17 6 - i < k → cs = smI (fun g => gv (σ.1 22) g) i → Ev X 0 0 (d + 1) mX8_givenInAll 4 [some (rv 17), some (iv cs), some (iv i)] [] σ (QI (fun r σ' => σ' = σ ∧ r = smI (fun g => gv (σ.1 22) g) (σ.1 17 6))) := by
  intro k
  induction k with
  | zero => intros; omega
  | succ k ih =>
  intro cs i hi0 hi1 hik hc
  refine e_iload_n (pc' := 5) dX8_givenInAll_4 rfl rfl ?_
  refine e_aload_n (pc' := 6) dX8_givenInAll_5 rfl rfl ?_
  refine e_getI (pc' := 9) (v := (σ.1 17 6)) dX8_givenInAll_6 rfl f_8_33 h_17 rfl rfl ?_
  refine e_icmpI (pc' := 12) (t := 26) dX8_givenInAll_9 (by decide) rfl ⟨by omega, by omega⟩ ⟨by omega, by omega⟩ (fun (c2_1 : (σ.1 17 6) ≤ (i : Int)) => ?_) (fun (c2_1 : ¬ ((σ.1 17 6) ≤ (i : Int))) => ?_)
  · refine e_iload_n (pc' := 27) dX8_givenInAll_26 rfl rfl ?_
    exact e_iret dX8_givenInAll_27 rfl ⟨rfl, Nat.le_refl _⟩ ⟨_, rfl, rfl, by rw [hc]; congr 1; omega⟩
  · refine e_iload_n (pc' := 13) dX8_givenInAll_12 rfl rfl ?_
    refine e_aload_n (pc' := 14) dX8_givenInAll_13 rfl rfl ?_
    refine e_iload_n (pc' := 15) dX8_givenInAll_14 rfl rfl ?_
    refine e_cv1i (pc' := 18) dX8_givenInAll_15 rfl k_8_67 h_17 rfl (Nat.le_of_ble_eq_true rfl) rfl rfl ⟨rfl, rfl⟩ ⟨Nat.zero_le _, Nat.zero_le _⟩ (s_givenBy_17 i (by omega) (by omega)) ?_
    intro r σ' hr; rw [hr.1, hr.2]; clear hr
    refine e_iadd (pc' := 19) dX8_givenInAll_18 rfl ?_
    refine e_istore_n (pc' := 20) (L' := [some (rv 17), some (iv (cs + (gv (σ.1 22) i))), some (iv i)]) dX8_givenInAll_19 rfl (by decide) rfl ?_
    refine e_iinc (pc' := 23) (L' := [some (rv 17), some (iv (cs + (gv (σ.1 22) i))), some (iv (i + 1))]) dX8_givenInAll_20 rfl rfl (by decide) rfl ?_
    refine e_goto (pc' := 4) dX8_givenInAll_23 (by decide) ?_
    exact ih _ _ (by omega) (by omega) (by omega) (by rw [smI_s _ (by omega)]; first | rfl | (rw [hc]) | omega)

set_option maxHeartbeats 4000000 in
set_option maxRecDepth 100000 in
theorem s_givenInAll_17 {X : AX} {d : Nat} {σ : SG} (hg : 0 ≤ σ.1 17 6 ∧ σ.1 17 6 ≤ 5) : Ev X 0 0 (d + 1) mX8_givenInAll 0 [some (rv 17), none, none] [] σ (QI (fun r σ' => σ' = σ ∧ r = smI (fun g => gv (σ.1 22) g) (σ.1 17 6))) := by
  refine e_iconst (pc' := 1) dX8_givenInAll_0 rfl ?_
  refine e_istore_n (pc' := 2) (L' := [some (rv 17), some (iv 0), none]) dX8_givenInAll_1 rfl (by decide) rfl ?_
  refine e_iconst (pc' := 3) dX8_givenInAll_2 rfl ?_
  refine e_istore_n (pc' := 4) (L' := [some (rv 17), some (iv 0), some (iv 0)]) dX8_givenInAll_3 rfl (by decide) rfl ?_
  exact l_givenInAll_17 hg (σ.1 17 6 + 1).toNat _ _ (by omega) (by omega) (by omega) rfl

set_option maxHeartbeats 4000000 in
set_option maxRecDepth 100000 in
theorem l_coinInAll_17 {X : AX} {d : Nat} {σ : SG} (hg : 0 ≤ σ.1 17 6 ∧ σ.1 17 6 ≤ 5) : ∀ (k : Nat) (cs i : Int), 0 ≤ i → i ≤ σ.1 17 6 → σ.1 17 6 - i < k → cs = smI (σ.1 18) i → Ev X 0 0 d mX8_coinInAll 4 [some (rv 17), some (iv cs), some (iv i)] [] σ (QI (fun r σ' => σ' = σ ∧ r = smI (σ.1 18) (σ.1 17 6))) := by
  intro k
  induction k with
  | zero => intros; omega
  | succ k ih =>
  intro cs i hi0 hi1 hik hc
  refine e_iload_n (pc' := 5) dX8_coinInAll_4 rfl rfl ?_
  refine e_aload_n (pc' := 6) dX8_coinInAll_5 rfl rfl ?_
  refine e_getI (pc' := 9) (v := (σ.1 17 6)) dX8_coinInAll_6 rfl f_8_33 h_17 rfl rfl ?_
  refine e_icmpI (pc' := 12) (t := 27) dX8_coinInAll_9 (by decide) rfl ⟨by omega, by omega⟩ ⟨by omega, by omega⟩ (fun (c2_1 : (σ.1 17 6) ≤ (i : Int)) => ?_) (fun (c2_1 : ¬ ((σ.1 17 6) ≤ (i : Int))) => ?_)
  · refine e_iload_n (pc' := 28) dX8_coinInAll_27 rfl rfl ?_
    exact e_iret dX8_coinInAll_28 rfl ⟨rfl, Nat.le_refl _⟩ ⟨_, rfl, rfl, by rw [hc]; congr 1; omega⟩
  · refine e_iload_n (pc' := 13) dX8_coinInAll_12 rfl rfl ?_
    refine e_aload_n (pc' := 14) dX8_coinInAll_13 rfl rfl ?_
    refine e_getR (pc' := 17) dX8_coinInAll_14 rfl f_8_9 h_17 rfl ?_
    refine e_iload_n (pc' := 18) dX8_coinInAll_17 rfl rfl ?_
    refine e_iald (pc' := 19) (v := (σ.1 18 i)) dX8_coinInAll_18 rfl h_18 (by decide) (by omega) (by omega) rfl ?_
    refine e_iadd (pc' := 20) dX8_coinInAll_19 rfl ?_
    refine e_istore_n (pc' := 21) (L' := [some (rv 17), some (iv (cs + (σ.1 18 i))), some (iv i)]) dX8_coinInAll_20 rfl (by decide) rfl ?_
    refine e_iinc (pc' := 24) (L' := [some (rv 17), some (iv (cs + (σ.1 18 i))), some (iv (i + 1))]) dX8_coinInAll_21 rfl rfl (by decide) rfl ?_
    refine e_goto (pc' := 4) dX8_coinInAll_24 (by decide) ?_
    exact ih _ _ (by omega) (by omega) (by omega) (by rw [smI_s _ (by omega)]; first | rfl | (rw [hc]) | omega)

set_option maxHeartbeats 4000000 in
set_option maxRecDepth 100000 in
theorem s_coinInAll_17 {X : AX} {d : Nat} {σ : SG} (hg : 0 ≤ σ.1 17 6 ∧ σ.1 17 6 ≤ 5) : Ev X 0 0 d mX8_coinInAll 0 [some (rv 17), none, none] [] σ (QI (fun r σ' => σ' = σ ∧ r = smI (σ.1 18) (σ.1 17 6))) := by
  refine e_iconst (pc' := 1) dX8_coinInAll_0 rfl ?_
  refine e_istore_n (pc' := 2) (L' := [some (rv 17), some (iv 0), none]) dX8_coinInAll_1 rfl (by decide) rfl ?_
  refine e_iconst (pc' := 3) dX8_coinInAll_2 rfl ?_
  refine e_istore_n (pc' := 4) (L' := [some (rv 17), some (iv 0), some (iv 0)]) dX8_coinInAll_3 rfl (by decide) rfl ?_
  exact l_coinInAll_17 hg (σ.1 17 6 + 1).toNat _ _ (by omega) (by omega) (by omega) rfl
