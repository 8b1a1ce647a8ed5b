theorem gv_rg {f : Int → Int} (h : ∀ j, 0 ≤ j → j < 15 → 0 ≤ f j ∧ f j ≤ 12) {g : Int} (h0 : 0 ≤ g) (h5 : g < 5) : 0 ≤ gv f g ∧ gv f g ≤ 36 := by
  unfold gv
  have a := h (g * 3 + 0) (by omega) (by omega)
  have b := h (g * 3 + 1) (by omega) (by omega)
  have c := h (g * 3 + 2) (by omega) (by omega)
  omega

set_option maxHeartbeats 4000000 in
set_option maxRecDepth 100000 in
theorem s_giver {X : AX} {d : Nat} {σ : SG} (ho : ScOK σ 1) (c : Int) (hc : rg c) : Ev X 0 0 (d + 1) mX10_giver 0 [some (rv 0), some (iv c)] [] σ (QI (fun r σ' => if 0 ≤ c ∧ c ≤ 12 then (if 5 ≤ σ.1 1 6 then (r = -4 ∧ σ' = σ) else (r = σ.1 1 6 + 1 - 1 ∧ σ' = upI (upI σ 2 (σ.1 1 6) c) 1 6 (σ.1 1 6 + 1))) else (r = -2 ∧ σ' = σ))) := by
  obtain ⟨hc1, hc2⟩ := hc
  have h6 := ho.1
  have h7 := ho.2.1
  refine e_iload_n (pc' := 1) dX10_giver_0 rfl rfl ?_
  refine e_bipush (pc' := 3) (z := 12) dX10_giver_1 rfl (by decide) ?_
  refine e_cs2i (pc' := 6) dX10_giver_3 rfl pn_10_89 k_10_89 (Nat.le_of_ble_eq_true rfl) rfl rfl ⟨rfl, rfl⟩ ⟨Nat.zero_le _, Nat.zero_le _⟩ (s_isWithin c 12 ⟨by omega, by omega⟩ ⟨by omega, by omega⟩) ?_
  intro r σ' hr; rw [hr.1, hr.2]; clear hr
  refine e_ifI (pc' := 9) (t := 12) dX10_giver_6 (by decide) rfl ⟨by first | omega | (split <;> omega), by first | omega | (split <;> omega)⟩ (fun (c2_1 : ((if 0 ≤ c ∧ c ≤ 12 then 1 else 0) : Int) ≠ 0) => ?_) (fun (c2_1 : ¬ (((if 0 ≤ c ∧ c ≤ 12 then 1 else 0) : Int) ≠ 0)) => ?_)
  · have c2_1n : 0 ≤ c ∧ c ≤ 12 := Classical.byContradiction (fun q => absurd (if_neg q : (if 0 ≤ c ∧ c ≤ 12 then (1 : Int) else 0) = 0) (by have := c2_1; omega))
    refine e_aload_n (pc' := 13) dX10_giver_12 rfl rfl ?_
    refine e_getR (pc' := 16) dX10_giver_13 rfl f_10_10 h_0 rfl ?_
    refine e_getI (pc' := 19) (v := (σ.1 1 6)) dX10_giver_16 rfl f_10_93 h_1 rfl rfl ?_
    refine e_iconst (pc' := 20) dX10_giver_19 rfl ?_
    refine e_icmpI (pc' := 23) (t := 26) dX10_giver_20 (by decide) rfl ⟨by first | omega | (split <;> omega), by first | omega | (split <;> omega)⟩ ⟨by omega, by omega⟩ (fun (c4_2 : ((σ.1 1 6) : Int) < 5) => ?_) (fun (c4_2 : ¬ (((σ.1 1 6) : Int) < 5)) => ?_)
    · refine e_aload_n (pc' := 27) dX10_giver_26 rfl rfl ?_
      refine e_getR (pc' := 30) dX10_giver_27 rfl f_10_10 h_0 rfl ?_
      refine e_getR (pc' := 33) dX10_giver_30 rfl f_10_97 h_1 rfl ?_
      refine e_aload_n (pc' := 34) dX10_giver_33 rfl rfl ?_
      refine e_getR (pc' := 37) dX10_giver_34 rfl f_10_10 h_0 rfl ?_
      refine e_getI (pc' := 40) (v := (σ.1 1 6)) dX10_giver_37 rfl f_10_93 h_1 rfl rfl ?_
      refine e_iload_n (pc' := 41) dX10_giver_40 rfl rfl ?_
      refine e_iast (pc' := 42) dX10_giver_41 rfl h_2 (by decide) (by omega) (by omega) ?_
      refine e_aload_n (pc' := 43) dX10_giver_42 rfl rfl ?_
      refine e_getR (pc' := 46) dX10_giver_43 rfl f_10_10 h_0 rfl ?_
      refine e_dup (pc' := 47) dX10_giver_46 rfl rfl ?_
      refine e_getI (pc' := 50) (v := (σ.1 1 6)) dX10_giver_47 rfl f_10_93 h_1 rfl rfl ?_
      refine e_iconst (pc' := 51) dX10_giver_50 rfl ?_
      refine e_iadd (pc' := 52) dX10_giver_51 rfl ?_
      refine e_putI (pc' := 55) dX10_giver_52 rfl f_10_93 h_1 rfl rfl rfl ?_
      refine e_aload_n (pc' := 56) dX10_giver_55 rfl rfl ?_
      refine e_getR (pc' := 59) dX10_giver_56 rfl f_10_10 h_0 rfl ?_
      refine e_getI (pc' := 62) (v := ((σ.1 1 6) + 1)) dX10_giver_59 rfl f_10_93 h_1 rfl rfl ?_
      refine e_iconst (pc' := 63) dX10_giver_62 rfl ?_
      refine e_isub (pc' := 64) dX10_giver_63 rfl ?_
      exact e_iret dX10_giver_64 rfl ⟨rfl, Nat.le_refl _⟩ ⟨_, rfl, by dsimp only; (repeat (first | (rw [if_pos (by omega)]) | (rw [if_neg (by omega)]))); first | exact ⟨rfl, rfl⟩ | rfl⟩
    · refine e_bipush (pc' := 25) (z := (-4)) dX10_giver_23 rfl (by decide) ?_
      exact e_iret dX10_giver_25 rfl ⟨rfl, Nat.le_refl _⟩ ⟨_, rfl, by dsimp only; (repeat (first | (rw [if_pos (by omega)]) | (rw [if_neg (by omega)]))); first | exact ⟨rfl, rfl⟩ | rfl⟩
  · have c2_1n : ¬ (0 ≤ c ∧ c ≤ 12) := fun q => absurd (if_pos q : (if 0 ≤ c ∧ c ≤ 12 then (1 : Int) else 0) = 1) (by have := c2_1; omega)
    refine e_bipush (pc' := 11) (z := (-2)) dX10_giver_9 rfl (by decide) ?_
    exact e_iret dX10_giver_11 rfl ⟨rfl, Nat.le_refl _⟩ ⟨_, rfl, by dsimp only; (repeat (first | (rw [if_pos (by omega)]) | (rw [if_neg (by omega)]))); first | exact ⟨rfl, rfl⟩ | rfl⟩

set_option maxHeartbeats 4000000 in
set_option maxRecDepth 100000 in
theorem s_work {X : AX} {d : Nat} {σ : SG} (ho : ScOK σ 1) (c : Int) (hc : rg c) : Ev X 0 0 (d + 1) mX10_work 0 [some (rv 0), some (iv c)] [] σ (QI (fun r σ' => if 0 ≤ c ∧ c ≤ 60 then (if 3 ≤ σ.1 1 7 then (r = -4 ∧ σ' = σ) else (r = σ.1 1 7 + 1 - 1 ∧ σ' = upI (upI σ 3 (σ.1 1 7) c) 1 7 (σ.1 1 7 + 1))) else (r = -2 ∧ σ' = σ))) := by
  obtain ⟨hc1, hc2⟩ := hc
  have h6 := ho.1
  have h7 := ho.2.1
  refine e_iload_n (pc' := 1) dX10_work_0 rfl rfl ?_
  refine e_bipush (pc' := 3) (z := 60) dX10_work_1 rfl (by decide) ?_
  refine e_cs2i (pc' := 6) dX10_work_3 rfl pn_10_89 k_10_89 (Nat.le_of_ble_eq_true rfl) rfl rfl ⟨rfl, rfl⟩ ⟨Nat.zero_le _, Nat.zero_le _⟩ (s_isWithin c 60 ⟨by omega, by omega⟩ ⟨by omega, by omega⟩) ?_
  intro r σ' hr; rw [hr.1, hr.2]; clear hr
  refine e_ifI (pc' := 9) (t := 12) dX10_work_6 (by decide) rfl ⟨by first | omega | (split <;> omega), by first | omega | (split <;> omega)⟩ (fun (c2_1 : ((if 0 ≤ c ∧ c ≤ 60 then 1 else 0) : Int) ≠ 0) => ?_) (fun (c2_1 : ¬ (((if 0 ≤ c ∧ c ≤ 60 then 1 else 0) : Int) ≠ 0)) => ?_)
  · have c2_1n : 0 ≤ c ∧ c ≤ 60 := Classical.byContradiction (fun q => absurd (if_neg q : (if 0 ≤ c ∧ c ≤ 60 then (1 : Int) else 0) = 0) (by have := c2_1; omega))
    refine e_aload_n (pc' := 13) dX10_work_12 rfl rfl ?_
    refine e_getR (pc' := 16) dX10_work_13 rfl f_10_10 h_0 rfl ?_
    refine e_getI (pc' := 19) (v := (σ.1 1 7)) dX10_work_16 rfl f_10_101 h_1 rfl rfl ?_
    refine e_iconst (pc' := 20) dX10_work_19 rfl ?_
    refine e_icmpI (pc' := 23) (t := 26) dX10_work_20 (by decide) rfl ⟨by first | omega | (split <;> omega), by first | omega | (split <;> omega)⟩ ⟨by omega, by omega⟩ (fun (c4_2 : ((σ.1 1 7) : Int) < 3) => ?_) (fun (c4_2 : ¬ (((σ.1 1 7) : Int) < 3)) => ?_)
    · refine e_aload_n (pc' := 27) dX10_work_26 rfl rfl ?_
      refine e_getR (pc' := 30) dX10_work_27 rfl f_10_10 h_0 rfl ?_
      refine e_getR (pc' := 33) dX10_work_30 rfl f_10_104 h_1 rfl ?_
      refine e_aload_n (pc' := 34) dX10_work_33 rfl rfl ?_
      refine e_getR (pc' := 37) dX10_work_34 rfl f_10_10 h_0 rfl ?_
      refine e_getI (pc' := 40) (v := (σ.1 1 7)) dX10_work_37 rfl f_10_101 h_1 rfl rfl ?_
      refine e_iload_n (pc' := 41) dX10_work_40 rfl rfl ?_
      refine e_iast (pc' := 42) dX10_work_41 rfl h_3 (by decide) (by omega) (by omega) ?_
      refine e_aload_n (pc' := 43) dX10_work_42 rfl rfl ?_
      refine e_getR (pc' := 46) dX10_work_43 rfl f_10_10 h_0 rfl ?_
      refine e_dup (pc' := 47) dX10_work_46 rfl rfl ?_
      refine e_getI (pc' := 50) (v := (σ.1 1 7)) dX10_work_47 rfl f_10_101 h_1 rfl rfl ?_
      refine e_iconst (pc' := 51) dX10_work_50 rfl ?_
      refine e_iadd (pc' := 52) dX10_work_51 rfl ?_
      refine e_putI (pc' := 55) dX10_work_52 rfl f_10_101 h_1 rfl rfl rfl ?_
      refine e_aload_n (pc' := 56) dX10_work_55 rfl rfl ?_
      refine e_getR (pc' := 59) dX10_work_56 rfl f_10_10 h_0 rfl ?_
      refine e_getI (pc' := 62) (v := ((σ.1 1 7) + 1)) dX10_work_59 rfl f_10_101 h_1 rfl rfl ?_
      refine e_iconst (pc' := 63) dX10_work_62 rfl ?_
      refine e_isub (pc' := 64) dX10_work_63 rfl ?_
      exact e_iret dX10_work_64 rfl ⟨rfl, Nat.le_refl _⟩ ⟨_, rfl, by dsimp only; (repeat (first | (rw [if_pos (by omega)]) | (rw [if_neg (by omega)]))); first | exact ⟨rfl, rfl⟩ | rfl⟩
    · refine e_bipush (pc' := 25) (z := (-4)) dX10_work_23 rfl (by decide) ?_
      exact e_iret dX10_work_25 rfl ⟨rfl, Nat.le_refl _⟩ ⟨_, rfl, by dsimp only; (repeat (first | (rw [if_pos (by omega)]) | (rw [if_neg (by omega)]))); first | exact ⟨rfl, rfl⟩ | rfl⟩
  · have c2_1n : ¬ (0 ≤ c ∧ c ≤ 60) := fun q => absurd (if_pos q : (if 0 ≤ c ∧ c ≤ 60 then (1 : Int) else 0) = 1) (by have := c2_1; omega)
    refine e_bipush (pc' := 11) (z := (-2)) dX10_work_9 rfl (by decide) ?_
    exact e_iret dX10_work_11 rfl ⟨rfl, Nat.le_refl _⟩ ⟨_, rfl, by dsimp only; (repeat (first | (rw [if_pos (by omega)]) | (rw [if_neg (by omega)]))); first | exact ⟨rfl, rfl⟩ | rfl⟩

set_option maxHeartbeats 4000000 in
set_option maxRecDepth 100000 in
theorem s_worth {X : AX} {d : Nat} {σ : SG} (ho : ScOK σ 1) (g : Int) (w : Int) (a : Int) (b : Int) (hg : rg g) (hw : rg w) (ha : rg a) (hb : rg b) : Ev X 0 0 (d + 2) mX10_worth 0 [some (rv 0), some (iv g), some (iv w), some (iv a), some (iv b)] [] σ (QI (fun r σ' => if ((0 ≤ g ∧ g < σ.1 1 6) ∧ (0 ≤ w ∧ w < σ.1 1 7)) ∧ (0 ≤ a ∧ a ≤ 200) ∧ (0 ≤ b ∧ b ≤ 50) then (r = 1 ∧ σ' = upI (upI σ 4 (g * 3 + w) a) 5 (g * 3 + w) b) else (r = -2 ∧ σ' = σ))) := by
  obtain ⟨hg1, hg2⟩ := hg
  obtain ⟨hw1, hw2⟩ := hw
  obtain ⟨ha1, ha2⟩ := ha
  obtain ⟨hb1, hb2⟩ := hb
  have h6 := ho.1
  have h7 := ho.2.1
  refine e_aload_n (pc' := 1) dX10_worth_0 rfl rfl ?_
  refine e_iload_n (pc' := 2) dX10_worth_1 rfl rfl ?_
  refine e_iload_n (pc' := 3) dX10_worth_2 rfl rfl ?_
  refine e_cv2i (pc' := 6) dX10_worth_3 rfl k_10_107 h_0 rfl (Nat.le_of_ble_eq_true rfl) rfl rfl ⟨rfl, rfl⟩ ⟨Nat.zero_le _, Nat.zero_le _⟩ (s_isPair g w ⟨by omega, by omega⟩ ⟨by omega, by omega⟩ ho.1 ho.2.1) ?_
  intro r σ' hr; rw [hr.1, hr.2]; clear hr
  refine e_ifI (pc' := 9) (t := 29) dX10_worth_6 (by decide) rfl ⟨by first | omega | (split <;> omega), by first | omega | (split <;> omega)⟩ (fun (c2_1 : ((if (0 ≤ g ∧ g < σ.1 1 6) ∧ (0 ≤ w ∧ w < σ.1 1 7) then 1 else 0) : Int) = 0) => ?_) (fun (c2_1 : ¬ (((if (0 ≤ g ∧ g < σ.1 1 6) ∧ (0 ≤ w ∧ w < σ.1 1 7) then 1 else 0) : Int) = 0)) => ?_)
  · have c2_1n : ¬ ((0 ≤ g ∧ g < σ.1 1 6) ∧ (0 ≤ w ∧ w < σ.1 1 7)) := fun q => absurd (if_pos q : (if (0 ≤ g ∧ g < σ.1 1 6) ∧ (0 ≤ w ∧ w < σ.1 1 7) then (1 : Int) else 0) = 1) (by have := c2_1; omega)
    refine e_bipush (pc' := 31) (z := (-2)) dX10_worth_29 rfl (by decide) ?_
    exact e_iret dX10_worth_31 rfl ⟨rfl, Nat.le_refl _⟩ ⟨_, rfl, by dsimp only; (repeat (first | (rw [if_pos (by omega)]) | (rw [if_neg (by omega)]))); first | exact ⟨rfl, rfl⟩ | rfl⟩
  · have c2_1n : (0 ≤ g ∧ g < σ.1 1 6) ∧ (0 ≤ w ∧ w < σ.1 1 7) := Classical.byContradiction (fun q => absurd (if_neg q : (if (0 ≤ g ∧ g < σ.1 1 6) ∧ (0 ≤ w ∧ w < σ.1 1 7) then (1 : Int) else 0) = 0) (by have := c2_1; omega))
    refine e_iload_n (pc' := 10) dX10_worth_9 rfl rfl ?_
    refine e_sipush (pc' := 13) (z := 200) dX10_worth_10 rfl (by decide) ?_
    refine e_cs2i (pc' := 16) dX10_worth_13 rfl pn_10_89 k_10_89 (Nat.le_of_ble_eq_true rfl) rfl rfl ⟨rfl, rfl⟩ ⟨Nat.zero_le _, Nat.zero_le _⟩ (s_isWithin a 200 ⟨by omega, by omega⟩ ⟨by omega, by omega⟩) ?_
    intro r σ' hr; rw [hr.1, hr.2]; clear hr
    refine e_ifI (pc' := 19) (t := 29) dX10_worth_16 (by decide) rfl ⟨by first | omega | (split <;> omega), by first | omega | (split <;> omega)⟩ (fun (c4_2 : ((if 0 ≤ a ∧ a ≤ 200 then 1 else 0) : Int) = 0) => ?_) (fun (c4_2 : ¬ (((if 0 ≤ a ∧ a ≤ 200 then 1 else 0) : Int) = 0)) => ?_)
    · have c4_2n : ¬ (0 ≤ a ∧ a ≤ 200) := fun q => absurd (if_pos q : (if 0 ≤ a ∧ a ≤ 200 then (1 : Int) else 0) = 1) (by have := c4_2; omega)
      refine e_bipush (pc' := 31) (z := (-2)) dX10_worth_29 rfl (by decide) ?_
      exact e_iret dX10_worth_31 rfl ⟨rfl, Nat.le_refl _⟩ ⟨_, rfl, by dsimp only; (repeat (first | (rw [if_pos (by omega)]) | (rw [if_neg (by omega)]))); first | exact ⟨rfl, rfl⟩ | rfl⟩
    · have c4_2n : 0 ≤ a ∧ a ≤ 200 := Classical.byContradiction (fun q => absurd (if_neg q : (if 0 ≤ a ∧ a ≤ 200 then (1 : Int) else 0) = 0) (by have := c4_2; omega))
      refine e_iload (pc' := 21) dX10_worth_19 rfl rfl ?_
      refine e_bipush (pc' := 23) (z := 50) dX10_worth_21 rfl (by decide) ?_
      refine e_cs2i (pc' := 26) dX10_worth_23 rfl pn_10_89 k_10_89 (Nat.le_of_ble_eq_true rfl) rfl rfl ⟨rfl, rfl⟩ ⟨Nat.zero_le _, Nat.zero_le _⟩ (s_isWithin b 50 ⟨by omega, by omega⟩ ⟨by omega, by omega⟩) ?_
      intro r σ' hr; rw [hr.1, hr.2]; clear hr
      refine e_ifI (pc' := 29) (t := 32) dX10_worth_26 (by decide) rfl ⟨by first | omega | (split <;> omega), by first | omega | (split <;> omega)⟩ (fun (c6_3 : ((if 0 ≤ b ∧ b ≤ 50 then 1 else 0) : Int) ≠ 0) => ?_) (fun (c6_3 : ¬ (((if 0 ≤ b ∧ b ≤ 50 then 1 else 0) : Int) ≠ 0)) => ?_)
      · have c6_3n : 0 ≤ b ∧ b ≤ 50 := Classical.byContradiction (fun q => absurd (if_neg q : (if 0 ≤ b ∧ b ≤ 50 then (1 : Int) else 0) = 0) (by have := c6_3; omega))
        refine e_aload_n (pc' := 33) dX10_worth_32 rfl rfl ?_
        refine e_getR (pc' := 36) dX10_worth_33 rfl f_10_10 h_0 rfl ?_
        refine e_getR (pc' := 39) dX10_worth_36 rfl f_10_110 h_1 rfl ?_
        refine e_iload_n (pc' := 40) dX10_worth_39 rfl rfl ?_
        refine e_iconst (pc' := 41) dX10_worth_40 rfl ?_
        refine e_imul (pc' := 42) dX10_worth_41 rfl ?_
        refine e_iload_n (pc' := 43) dX10_worth_42 rfl rfl ?_
        refine e_iadd (pc' := 44) dX10_worth_43 rfl ?_
        refine e_iload_n (pc' := 45) dX10_worth_44 rfl rfl ?_
        refine e_iast (pc' := 46) dX10_worth_45 rfl h_4 (by decide) (by omega) (by omega) ?_
        refine e_aload_n (pc' := 47) dX10_worth_46 rfl rfl ?_
        refine e_getR (pc' := 50) dX10_worth_47 rfl f_10_10 h_0 rfl ?_
        refine e_getR (pc' := 53) dX10_worth_50 rfl f_10_113 h_1 rfl ?_
        refine e_iload_n (pc' := 54) dX10_worth_53 rfl rfl ?_
        refine e_iconst (pc' := 55) dX10_worth_54 rfl ?_
        refine e_imul (pc' := 56) dX10_worth_55 rfl ?_
        refine e_iload_n (pc' := 57) dX10_worth_56 rfl rfl ?_
        refine e_iadd (pc' := 58) dX10_worth_57 rfl ?_
        refine e_iload (pc' := 60) dX10_worth_58 rfl rfl ?_
        refine e_iast (pc' := 61) dX10_worth_60 rfl h_5 (by decide) (by omega) (by omega) ?_
        refine e_iconst (pc' := 62) dX10_worth_61 rfl ?_
        exact e_iret dX10_worth_62 rfl ⟨rfl, Nat.le_refl _⟩ ⟨_, rfl, by dsimp only; (repeat (first | (rw [if_pos (by omega)]) | (rw [if_neg (by omega)]))); first | exact ⟨rfl, rfl⟩ | rfl⟩
      · have c6_3n : ¬ (0 ≤ b ∧ b ≤ 50) := fun q => absurd (if_pos q : (if 0 ≤ b ∧ b ≤ 50 then (1 : Int) else 0) = 1) (by have := c6_3; omega)
        refine e_bipush (pc' := 31) (z := (-2)) dX10_worth_29 rfl (by decide) ?_
        exact e_iret dX10_worth_31 rfl ⟨rfl, Nat.le_refl _⟩ ⟨_, rfl, by dsimp only; (repeat (first | (rw [if_pos (by omega)]) | (rw [if_neg (by omega)]))); first | exact ⟨rfl, rfl⟩ | rfl⟩

set_option maxHeartbeats 4000000 in
set_option maxRecDepth 100000 in
theorem s_setKeep {X : AX} {d : Nat} {σ : SG} (v : Int) (hv : rg v) : Ev X 0 0 (d + 2) mX10_setKeep 0 [some (rv 0), some (iv v), none] [] σ (QI (fun r σ' => if 0 ≤ v ∧ v ≤ 99 then (r = σ.1 1 8 ∧ σ' = upI σ 1 8 v) else (r = -2 ∧ σ' = σ))) := by
  obtain ⟨hv1, hv2⟩ := hv
  refine e_iload_n (pc' := 1) dX10_setKeep_0 rfl rfl ?_
  refine e_bipush (pc' := 3) (z := 99) dX10_setKeep_1 rfl (by decide) ?_
  refine e_cs2i (pc' := 6) dX10_setKeep_3 rfl pn_10_89 k_10_89 (Nat.le_of_ble_eq_true rfl) rfl rfl ⟨rfl, rfl⟩ ⟨Nat.zero_le _, Nat.zero_le _⟩ (s_isWithin v 99 ⟨by omega, by omega⟩ ⟨by omega, by omega⟩) ?_
  intro r σ' hr; rw [hr.1, hr.2]; clear hr
  refine e_ifI (pc' := 9) (t := 12) dX10_setKeep_6 (by decide) rfl ⟨by first | omega | (split <;> omega), by first | omega | (split <;> omega)⟩ (fun (c2_1 : ((if 0 ≤ v ∧ v ≤ 99 then 1 else 0) : Int) ≠ 0) => ?_) (fun (c2_1 : ¬ (((if 0 ≤ v ∧ v ≤ 99 then 1 else 0) : Int) ≠ 0)) => ?_)
  · have c2_1n : 0 ≤ v ∧ v ≤ 99 := Classical.byContradiction (fun q => absurd (if_neg q : (if 0 ≤ v ∧ v ≤ 99 then (1 : Int) else 0) = 0) (by have := c2_1; omega))
    refine e_aload_n (pc' := 13) dX10_setKeep_12 rfl rfl ?_
    refine e_getR (pc' := 16) dX10_setKeep_13 rfl f_10_10 h_0 rfl ?_
    refine e_getI (pc' := 19) (v := (σ.1 1 8)) dX10_setKeep_16 rfl f_10_253 h_1 rfl rfl ?_
    refine e_istore_n (pc' := 20) (L' := [some (rv 0), some (iv v), some (iv (σ.1 1 8))]) dX10_setKeep_19 rfl (by decide) rfl ?_
    refine e_aload_n (pc' := 21) dX10_setKeep_20 rfl rfl ?_
    refine e_getR (pc' := 24) dX10_setKeep_21 rfl f_10_10 h_0 rfl ?_
    refine e_iload_n (pc' := 25) dX10_setKeep_24 rfl rfl ?_
    refine e_putI (pc' := 28) dX10_setKeep_25 rfl f_10_253 h_1 rfl rfl rfl ?_
    refine e_iload_n (pc' := 29) dX10_setKeep_28 rfl rfl ?_
    exact e_iret dX10_setKeep_29 rfl ⟨rfl, Nat.le_refl _⟩ ⟨_, rfl, by dsimp only; (repeat (first | (rw [if_pos (by omega)]) | (rw [if_neg (by omega)]))); first | exact ⟨rfl, rfl⟩ | rfl⟩
  · have c2_1n : ¬ (0 ≤ v ∧ v ≤ 99) := fun q => absurd (if_pos q : (if 0 ≤ v ∧ v ≤ 99 then (1 : Int) else 0) = 1) (by have := c2_1; omega)
    refine e_bipush (pc' := 11) (z := (-2)) dX10_setKeep_9 rfl (by decide) ?_
    exact e_iret dX10_setKeep_11 rfl ⟨rfl, Nat.le_refl _⟩ ⟨_, rfl, by dsimp only; (repeat (first | (rw [if_pos (by omega)]) | (rw [if_neg (by omega)]))); first | exact ⟨rfl, rfl⟩ | rfl⟩

set_option maxHeartbeats 4000000 in
set_option maxRecDepth 100000 in
theorem s_setTheRule {X : AX} {d : Nat} {σ : SG} (v : Int) (hv : rg v) : Ev X 0 0 (d + 2) mX10_setTheRule 0 [some (rv 0), some (iv v), none] [] σ (QI (fun r σ' => if 0 ≤ v ∧ v ≤ 2 then (r = σ.1 1 9 ∧ σ' = upI σ 1 9 v) else (r = -2 ∧ σ' = σ))) := by
  obtain ⟨hv1, hv2⟩ := hv
  refine e_iload_n (pc' := 1) dX10_setTheRule_0 rfl rfl ?_
  refine e_cs1i (pc' := 4) dX10_setTheRule_1 rfl pn_10_129 k_10_129 (Nat.le_of_ble_eq_true rfl) rfl rfl ⟨rfl, rfl⟩ ⟨Nat.zero_le _, Nat.zero_le _⟩ (s_isRule v ⟨by omega, by omega⟩) ?_
  intro r σ' hr; rw [hr.1, hr.2]; clear hr
  refine e_ifI (pc' := 7) (t := 10) dX10_setTheRule_4 (by decide) rfl ⟨by first | omega | (split <;> omega), by first | omega | (split <;> omega)⟩ (fun (c2_1 : ((if 0 ≤ v ∧ v ≤ 2 then 1 else 0) : Int) ≠ 0) => ?_) (fun (c2_1 : ¬ (((if 0 ≤ v ∧ v ≤ 2 then 1 else 0) : Int) ≠ 0)) => ?_)
  · have c2_1n : 0 ≤ v ∧ v ≤ 2 := Classical.byContradiction (fun q => absurd (if_neg q : (if 0 ≤ v ∧ v ≤ 2 then (1 : Int) else 0) = 0) (by have := c2_1; omega))
    refine e_aload_n (pc' := 11) dX10_setTheRule_10 rfl rfl ?_
    refine e_getR (pc' := 14) dX10_setTheRule_11 rfl f_10_10 h_0 rfl ?_
    refine e_getI (pc' := 17) (v := (σ.1 1 9)) dX10_setTheRule_14 rfl f_10_256 h_1 rfl rfl ?_
    refine e_istore_n (pc' := 18) (L' := [some (rv 0), some (iv v), some (iv (σ.1 1 9))]) dX10_setTheRule_17 rfl (by decide) rfl ?_
    refine e_aload_n (pc' := 19) dX10_setTheRule_18 rfl rfl ?_
    refine e_getR (pc' := 22) dX10_setTheRule_19 rfl f_10_10 h_0 rfl ?_
    refine e_iload_n (pc' := 23) dX10_setTheRule_22 rfl rfl ?_
    refine e_putI (pc' := 26) dX10_setTheRule_23 rfl f_10_256 h_1 rfl rfl rfl ?_
    refine e_iload_n (pc' := 27) dX10_setTheRule_26 rfl rfl ?_
    exact e_iret dX10_setTheRule_27 rfl ⟨rfl, Nat.le_refl _⟩ ⟨_, rfl, by dsimp only; (repeat (first | (rw [if_pos (by omega)]) | (rw [if_neg (by omega)]))); first | exact ⟨rfl, rfl⟩ | rfl⟩
  · have c2_1n : ¬ (0 ≤ v ∧ v ≤ 2) := fun q => absurd (if_pos q : (if 0 ≤ v ∧ v ≤ 2 then (1 : Int) else 0) = 1) (by have := c2_1; omega)
    refine e_bipush (pc' := 9) (z := (-2)) dX10_setTheRule_7 rfl (by decide) ?_
    exact e_iret dX10_setTheRule_9 rfl ⟨rfl, Nat.le_refl _⟩ ⟨_, rfl, by dsimp only; (repeat (first | (rw [if_pos (by omega)]) | (rw [if_neg (by omega)]))); first | exact ⟨rfl, rfl⟩ | rfl⟩

set_option maxHeartbeats 4000000 in
set_option maxRecDepth 100000 in
theorem s_setPurse {X : AX} {d : Nat} {σ : SG} (v : Int) (hv : rg v) : Ev X 0 0 (d + 2) mX10_setPurse 0 [some (rv 0), some (iv v), none] [] σ (QI (fun r σ' => if 0 ≤ v ∧ v ≤ 200 then (r = σ.1 1 10 ∧ σ' = upI σ 1 10 v) else (r = -2 ∧ σ' = σ))) := by
  obtain ⟨hv1, hv2⟩ := hv
  refine e_iload_n (pc' := 1) dX10_setPurse_0 rfl rfl ?_
  refine e_sipush (pc' := 4) (z := 200) dX10_setPurse_1 rfl (by decide) ?_
  refine e_cs2i (pc' := 7) dX10_setPurse_4 rfl pn_10_89 k_10_89 (Nat.le_of_ble_eq_true rfl) rfl rfl ⟨rfl, rfl⟩ ⟨Nat.zero_le _, Nat.zero_le _⟩ (s_isWithin v 200 ⟨by omega, by omega⟩ ⟨by omega, by omega⟩) ?_
  intro r σ' hr; rw [hr.1, hr.2]; clear hr
  refine e_ifI (pc' := 10) (t := 13) dX10_setPurse_7 (by decide) rfl ⟨by first | omega | (split <;> omega), by first | omega | (split <;> omega)⟩ (fun (c2_1 : ((if 0 ≤ v ∧ v ≤ 200 then 1 else 0) : Int) ≠ 0) => ?_) (fun (c2_1 : ¬ (((if 0 ≤ v ∧ v ≤ 200 then 1 else 0) : Int) ≠ 0)) => ?_)
  · have c2_1n : 0 ≤ v ∧ v ≤ 200 := Classical.byContradiction (fun q => absurd (if_neg q : (if 0 ≤ v ∧ v ≤ 200 then (1 : Int) else 0) = 0) (by have := c2_1; omega))
    refine e_aload_n (pc' := 14) dX10_setPurse_13 rfl rfl ?_
    refine e_getR (pc' := 17) dX10_setPurse_14 rfl f_10_10 h_0 rfl ?_
    refine e_getI (pc' := 20) (v := (σ.1 1 10)) dX10_setPurse_17 rfl f_10_259 h_1 rfl rfl ?_
    refine e_istore_n (pc' := 21) (L' := [some (rv 0), some (iv v), some (iv (σ.1 1 10))]) dX10_setPurse_20 rfl (by decide) rfl ?_
    refine e_aload_n (pc' := 22) dX10_setPurse_21 rfl rfl ?_
    refine e_getR (pc' := 25) dX10_setPurse_22 rfl f_10_10 h_0 rfl ?_
    refine e_iload_n (pc' := 26) dX10_setPurse_25 rfl rfl ?_
    refine e_putI (pc' := 29) dX10_setPurse_26 rfl f_10_259 h_1 rfl rfl rfl ?_
    refine e_iload_n (pc' := 30) dX10_setPurse_29 rfl rfl ?_
    exact e_iret dX10_setPurse_30 rfl ⟨rfl, Nat.le_refl _⟩ ⟨_, rfl, by dsimp only; (repeat (first | (rw [if_pos (by omega)]) | (rw [if_neg (by omega)]))); first | exact ⟨rfl, rfl⟩ | rfl⟩
  · have c2_1n : ¬ (0 ≤ v ∧ v ≤ 200) := fun q => absurd (if_pos q : (if 0 ≤ v ∧ v ≤ 200 then (1 : Int) else 0) = 1) (by have := c2_1; omega)
    refine e_bipush (pc' := 12) (z := (-2)) dX10_setPurse_10 rfl (by decide) ?_
    exact e_iret dX10_setPurse_12 rfl ⟨rfl, Nat.le_refl _⟩ ⟨_, rfl, by dsimp only; (repeat (first | (rw [if_pos (by omega)]) | (rw [if_neg (by omega)]))); first | exact ⟨rfl, rfl⟩ | rfl⟩

set_option maxHeartbeats 4000000 in
set_option maxRecDepth 100000 in
theorem s_setParted {X : AX} {d : Nat} {σ : SG} (v : Int) (hv : rg v) : Ev X 0 0 (d + 2) mX10_setParted 0 [some (rv 0), some (iv v), none] [] σ (QI (fun r σ' => if 0 ≤ v ∧ v ≤ 2 then (r = σ.1 1 11 ∧ σ' = upI σ 1 11 v) else (r = -2 ∧ σ' = σ))) := by
  obtain ⟨hv1, hv2⟩ := hv
  refine e_iload_n (pc' := 1) dX10_setParted_0 rfl rfl ?_
  refine e_iconst (pc' := 2) dX10_setParted_1 rfl ?_
  refine e_cs2i (pc' := 5) dX10_setParted_2 rfl pn_10_89 k_10_89 (Nat.le_of_ble_eq_true rfl) rfl rfl ⟨rfl, rfl⟩ ⟨Nat.zero_le _, Nat.zero_le _⟩ (s_isWithin v 2 ⟨by omega, by omega⟩ ⟨by omega, by omega⟩) ?_
  intro r σ' hr; rw [hr.1, hr.2]; clear hr
  refine e_ifI (pc' := 8) (t := 11) dX10_setParted_5 (by decide) rfl ⟨by first | omega | (split <;> omega), by first | omega | (split <;> omega)⟩ (fun (c2_1 : ((if 0 ≤ v ∧ v ≤ 2 then 1 else 0) : Int) ≠ 0) => ?_) (fun (c2_1 : ¬ (((if 0 ≤ v ∧ v ≤ 2 then 1 else 0) : Int) ≠ 0)) => ?_)
  · have c2_1n : 0 ≤ v ∧ v ≤ 2 := Classical.byContradiction (fun q => absurd (if_neg q : (if 0 ≤ v ∧ v ≤ 2 then (1 : Int) else 0) = 0) (by have := c2_1; omega))
    refine e_aload_n (pc' := 12) dX10_setParted_11 rfl rfl ?_
    refine e_getR (pc' := 15) dX10_setParted_12 rfl f_10_10 h_0 rfl ?_
    refine e_getI (pc' := 18) (v := (σ.1 1 11)) dX10_setParted_15 rfl f_10_262 h_1 rfl rfl ?_
    refine e_istore_n (pc' := 19) (L' := [some (rv 0), some (iv v), some (iv (σ.1 1 11))]) dX10_setParted_18 rfl (by decide) rfl ?_
    refine e_aload_n (pc' := 20) dX10_setParted_19 rfl rfl ?_
    refine e_getR (pc' := 23) dX10_setParted_20 rfl f_10_10 h_0 rfl ?_
    refine e_iload_n (pc' := 24) dX10_setParted_23 rfl rfl ?_
    refine e_putI (pc' := 27) dX10_setParted_24 rfl f_10_262 h_1 rfl rfl rfl ?_
    refine e_iload_n (pc' := 28) dX10_setParted_27 rfl rfl ?_
    exact e_iret dX10_setParted_28 rfl ⟨rfl, Nat.le_refl _⟩ ⟨_, rfl, by dsimp only; (repeat (first | (rw [if_pos (by omega)]) | (rw [if_neg (by omega)]))); first | exact ⟨rfl, rfl⟩ | rfl⟩
  · have c2_1n : ¬ (0 ≤ v ∧ v ≤ 2) := fun q => absurd (if_pos q : (if 0 ≤ v ∧ v ≤ 2 then (1 : Int) else 0) = 1) (by have := c2_1; omega)
    refine e_bipush (pc' := 10) (z := (-2)) dX10_setParted_8 rfl (by decide) ?_
    exact e_iret dX10_setParted_10 rfl ⟨rfl, Nat.le_refl _⟩ ⟨_, rfl, by dsimp only; (repeat (first | (rw [if_pos (by omega)]) | (rw [if_neg (by omega)]))); first | exact ⟨rfl, rfl⟩ | rfl⟩

set_option maxHeartbeats 4000000 in
set_option maxRecDepth 100000 in
theorem s_set {X : AX} {d : Nat} {σ : SG} (what v : Int) (hwh : rg what) (hv : rg v) : Ev X 0 0 (d + 3) mX10_set 0 [some (rv 0), some (iv what), some (iv v)] [] σ (QI (fun r σ' => if (what = 0 ∧ 0 ≤ v ∧ v ≤ 99) ∨ (what = 1 ∧ 0 ≤ v ∧ v ≤ 2) ∨ (what = 2 ∧ 0 ≤ v ∧ v ≤ 200) ∨ (what = 3 ∧ 0 ≤ v ∧ v ≤ 2) then (r = σ.1 1 (8 + what) ∧ σ' = upI σ 1 (8 + what) v) else (r = -2 ∧ σ' = σ))) := by
  obtain ⟨hwh1, hwh2⟩ := hwh
  obtain ⟨hv1, hv2⟩ := hv
  refine e_iload_n (pc' := 1) dX10_set_0 rfl rfl ?_
  by_cases k2_1 : what = 0
  · refine e_table (pc' := 32) (off := 31) dX10_set_1 ⟨by omega, by omega⟩  (by rw [k2_1]; rfl) (by decide) ?_
    refine e_aload_n (pc' := 33) dX10_set_32 rfl rfl ?_
    refine e_iload_n (pc' := 34) dX10_set_33 rfl rfl ?_
    refine e_cv1i (pc' := 37) dX10_set_34 rfl k_10_116 h_0 rfl (Nat.le_of_ble_eq_true rfl) rfl rfl ⟨rfl, rfl⟩ ⟨Nat.zero_le _, Nat.zero_le _⟩ (s_setKeep v ⟨by omega, by omega⟩) ?_
    intro r τ hr
    exact e_iret dX10_set_37 rfl ⟨rfl, Nat.le_refl _⟩ ⟨_, rfl, by dsimp only; split at hr <;> first | (rw [if_pos (by omega), show what = 0 by omega]; exact ⟨hr.1, hr.2⟩) | (rw [if_neg (by omega)]; exact ⟨hr.1, hr.2⟩)⟩
  by_cases k2_2 : what = 1
  · refine e_table (pc' := 38) (off := 37) dX10_set_1 ⟨by omega, by omega⟩  (by rw [k2_2]; rfl) (by decide) ?_
    refine e_aload_n (pc' := 39) dX10_set_38 rfl rfl ?_
    refine e_iload_n (pc' := 40) dX10_set_39 rfl rfl ?_
    refine e_cv1i (pc' := 43) dX10_set_40 rfl k_10_120 h_0 rfl (Nat.le_of_ble_eq_true rfl) rfl rfl ⟨rfl, rfl⟩ ⟨Nat.zero_le _, Nat.zero_le _⟩ (s_setTheRule v ⟨by omega, by omega⟩) ?_
    intro r τ hr
    exact e_iret dX10_set_43 rfl ⟨rfl, Nat.le_refl _⟩ ⟨_, rfl, by dsimp only; split at hr <;> first | (rw [if_pos (by omega), show what = 1 by omega]; exact ⟨hr.1, hr.2⟩) | (rw [if_neg (by omega)]; exact ⟨hr.1, hr.2⟩)⟩
  by_cases k2_3 : what = 2
  · refine e_table (pc' := 44) (off := 43) dX10_set_1 ⟨by omega, by omega⟩  (by rw [k2_3]; rfl) (by decide) ?_
    refine e_aload_n (pc' := 45) dX10_set_44 rfl rfl ?_
    refine e_iload_n (pc' := 46) dX10_set_45 rfl rfl ?_
    refine e_cv1i (pc' := 49) dX10_set_46 rfl k_10_123 h_0 rfl (Nat.le_of_ble_eq_true rfl) rfl rfl ⟨rfl, rfl⟩ ⟨Nat.zero_le _, Nat.zero_le _⟩ (s_setPurse v ⟨by omega, by omega⟩) ?_
    intro r τ hr
    exact e_iret dX10_set_49 rfl ⟨rfl, Nat.le_refl _⟩ ⟨_, rfl, by dsimp only; split at hr <;> first | (rw [if_pos (by omega), show what = 2 by omega]; exact ⟨hr.1, hr.2⟩) | (rw [if_neg (by omega)]; exact ⟨hr.1, hr.2⟩)⟩
  by_cases k2_4 : what = 3
  · refine e_table (pc' := 50) (off := 49) dX10_set_1 ⟨by omega, by omega⟩  (by rw [k2_4]; rfl) (by decide) ?_
    refine e_aload_n (pc' := 51) dX10_set_50 rfl rfl ?_
    refine e_iload_n (pc' := 52) dX10_set_51 rfl rfl ?_
    refine e_cv1i (pc' := 55) dX10_set_52 rfl k_10_126 h_0 rfl (Nat.le_of_ble_eq_true rfl) rfl rfl ⟨rfl, rfl⟩ ⟨Nat.zero_le _, Nat.zero_le _⟩ (s_setParted v ⟨by omega, by omega⟩) ?_
    intro r τ hr
    exact e_iret dX10_set_55 rfl ⟨rfl, Nat.le_refl _⟩ ⟨_, rfl, by dsimp only; split at hr <;> first | (rw [if_pos (by omega), show what = 3 by omega]; exact ⟨hr.1, hr.2⟩) | (rw [if_neg (by omega)]; exact ⟨hr.1, hr.2⟩)⟩
  refine e_table (pc' := 56) (off := 55) dX10_set_1 ⟨by omega, by omega⟩  (by rw [if_pos (by omega)]) (by decide) ?_
  refine e_bipush (pc' := 58) (z := (-2)) dX10_set_56 rfl (by decide) ?_
  exact e_iret dX10_set_58 rfl ⟨rfl, Nat.le_refl _⟩ ⟨_, rfl, by dsimp only; rw [if_neg (by omega)]; exact ⟨rfl, rfl⟩⟩

set_option maxHeartbeats 4000000 in
set_option maxRecDepth 100000 in
theorem s_give {X : AX} {d : Nat} {σ : SG} (ho : ScOK σ 1) (g : Int) (w : Int) (a : Int) (hg : rg g) (hw : rg w) (ha : rg a) : Ev X 0 0 (d + 2) mX10_give 0 [some (rv 0), some (iv g), some (iv w), some (iv a), none, none] [] σ (QI (fun r σ' => if (((0 ≤ g ∧ g < σ.1 1 6) ∧ (0 ≤ w ∧ w < σ.1 1 7)) ∧ (0 ≤ a ∧ a ≤ 12)) ∧ gv (σ.1 6) g - σ.1 6 (g * 3 + w) + a ≤ σ.1 2 g then (r = σ.1 6 (g * 3 + w) ∧ σ' = upI σ 6 (g * 3 + w) a) else (r = -2 ∧ σ' = σ))) := by
  obtain ⟨hg1, hg2⟩ := hg
  obtain ⟨hw1, hw2⟩ := hw
  obtain ⟨ha1, ha2⟩ := ha
  have h6 := ho.1
  have h7 := ho.2.1
  refine e_aload_n (pc' := 1) dX10_give_0 rfl rfl ?_
  refine e_iload_n (pc' := 2) dX10_give_1 rfl rfl ?_
  refine e_iload_n (pc' := 3) dX10_give_2 rfl rfl ?_
  refine e_cv2i (pc' := 6) dX10_give_3 rfl k_10_107 h_0 rfl (Nat.le_of_ble_eq_true rfl) rfl rfl ⟨rfl, rfl⟩ ⟨Nat.zero_le _, Nat.zero_le _⟩ (s_isPair g w ⟨by omega, by omega⟩ ⟨by omega, by omega⟩ ho.1 ho.2.1) ?_
  intro r σ' hr; rw [hr.1, hr.2]; clear hr
  refine e_ifI (pc' := 9) (t := 18) dX10_give_6 (by decide) rfl ⟨by first | omega | (split <;> omega), by first | omega | (split <;> omega)⟩ (fun (c2_1 : ((if (0 ≤ g ∧ g < σ.1 1 6) ∧ (0 ≤ w ∧ w < σ.1 1 7) then 1 else 0) : Int) = 0) => ?_) (fun (c2_1 : ¬ (((if (0 ≤ g ∧ g < σ.1 1 6) ∧ (0 ≤ w ∧ w < σ.1 1 7) then 1 else 0) : Int) = 0)) => ?_)
  · have c2_1n : ¬ ((0 ≤ g ∧ g < σ.1 1 6) ∧ (0 ≤ w ∧ w < σ.1 1 7)) := fun q => absurd (if_pos q : (if (0 ≤ g ∧ g < σ.1 1 6) ∧ (0 ≤ w ∧ w < σ.1 1 7) then (1 : Int) else 0) = 1) (by have := c2_1; omega)
    refine e_bipush (pc' := 20) (z := (-2)) dX10_give_18 rfl (by decide) ?_
    exact e_iret dX10_give_20 rfl ⟨rfl, Nat.le_refl _⟩ ⟨_, rfl, by dsimp only; (repeat (first | (rw [if_pos (by omega)]) | (rw [if_neg (by omega)]))); first | exact ⟨rfl, rfl⟩ | rfl⟩
  · have c2_1n : (0 ≤ g ∧ g < σ.1 1 6) ∧ (0 ≤ w ∧ w < σ.1 1 7) := Classical.byContradiction (fun q => absurd (if_neg q : (if (0 ≤ g ∧ g < σ.1 1 6) ∧ (0 ≤ w ∧ w < σ.1 1 7) then (1 : Int) else 0) = 0) (by have := c2_1; omega))
    refine e_iload_n (pc' := 10) dX10_give_9 rfl rfl ?_
    refine e_bipush (pc' := 12) (z := 12) dX10_give_10 rfl (by decide) ?_
    refine e_cs2i (pc' := 15) dX10_give_12 rfl pn_10_89 k_10_89 (Nat.le_of_ble_eq_true rfl) rfl rfl ⟨rfl, rfl⟩ ⟨Nat.zero_le _, Nat.zero_le _⟩ (s_isWithin a 12 ⟨by omega, by omega⟩ ⟨by omega, by omega⟩) ?_
    intro r σ' hr; rw [hr.1, hr.2]; clear hr
    refine e_ifI (pc' := 18) (t := 21) dX10_give_15 (by decide) rfl ⟨by first | omega | (split <;> omega), by first | omega | (split <;> omega)⟩ (fun (c4_2 : ((if 0 ≤ a ∧ a ≤ 12 then 1 else 0) : Int) ≠ 0) => ?_) (fun (c4_2 : ¬ (((if 0 ≤ a ∧ a ≤ 12 then 1 else 0) : Int) ≠ 0)) => ?_)
    · have c4_2n : 0 ≤ a ∧ a ≤ 12 := Classical.byContradiction (fun q => absurd (if_neg q : (if 0 ≤ a ∧ a ≤ 12 then (1 : Int) else 0) = 0) (by have := c4_2; omega))
      refine e_iload_n (pc' := 22) dX10_give_21 rfl rfl ?_
      refine e_iconst (pc' := 23) dX10_give_22 rfl ?_
      refine e_imul (pc' := 24) dX10_give_23 rfl ?_
      refine e_iload_n (pc' := 25) dX10_give_24 rfl rfl ?_
      refine e_iadd (pc' := 26) dX10_give_25 rfl ?_
      refine e_istore (pc' := 28) (L' := [some (rv 0), some (iv g), some (iv w), some (iv a), some (iv ((g * 3) + w)), none]) dX10_give_26 rfl (by decide) rfl ?_
      refine e_aload_n (pc' := 29) dX10_give_28 rfl rfl ?_
      have hgv : 0 ≤ gv (σ.1 6) g ∧ gv (σ.1 6) g ≤ 36 := gv_rg ho.2.2.2.2.2.2.1 (by omega) (by omega)
      have hgf : 0 ≤ σ.1 6 (g * 3 + w) ∧ σ.1 6 (g * 3 + w) ≤ 12 := ho.2.2.2.2.2.2.1 (g * 3 + w) (by omega) (by omega)
      have hcn : 0 ≤ σ.1 2 g ∧ σ.1 2 g ≤ 12 := ho.2.2.2.2.2.2.2.2.2.2.1 g (by omega) (by omega)
      refine e_getR (pc' := 32) dX10_give_29 rfl f_10_10 h_0 rfl ?_
      refine e_getR (pc' := 35) dX10_give_32 rfl f_10_152 h_1 rfl ?_
      refine e_iload (pc' := 37) dX10_give_35 rfl rfl ?_
      refine e_iald (pc' := 38) (v := (σ.1 6 ((g * 3) + w))) dX10_give_37 rfl h_6 (by decide) (by omega) (by omega) rfl ?_
      refine e_istore (pc' := 40) (L' := [some (rv 0), some (iv g), some (iv w), some (iv a), some (iv ((g * 3) + w)), some (iv (σ.1 6 ((g * 3) + w)))]) dX10_give_38 rfl (by decide) rfl ?_
      refine e_aload_n (pc' := 41) dX10_give_40 rfl rfl ?_
      refine e_getR (pc' := 44) dX10_give_41 rfl f_10_10 h_0 rfl ?_
      refine e_iload_n (pc' := 45) dX10_give_44 rfl rfl ?_
      refine e_cv1i (pc' := 48) dX10_give_45 rfl k_10_155 h_1 rfl (Nat.le_of_ble_eq_true rfl) rfl rfl ⟨rfl, rfl⟩ ⟨Nat.zero_le _, Nat.zero_le _⟩ (s_givenBy_1 g (by omega) (by omega)) ?_
      intro r σ' hr; rw [hr.1, hr.2]; clear hr
      refine e_iload (pc' := 50) dX10_give_48 rfl rfl ?_
      refine e_isub (pc' := 51) dX10_give_50 rfl ?_
      refine e_iload_n (pc' := 52) dX10_give_51 rfl rfl ?_
      refine e_iadd (pc' := 53) dX10_give_52 rfl ?_
      refine e_aload_n (pc' := 54) dX10_give_53 rfl rfl ?_
      refine e_getR (pc' := 57) dX10_give_54 rfl f_10_10 h_0 rfl ?_
      refine e_getR (pc' := 60) dX10_give_57 rfl f_10_97 h_1 rfl ?_
      refine e_iload_n (pc' := 61) dX10_give_60 rfl rfl ?_
      refine e_iald (pc' := 62) (v := (σ.1 2 g)) dX10_give_61 rfl h_2 (by decide) (by omega) (by omega) rfl ?_
      refine e_icmpI (pc' := 65) (t := 68) dX10_give_62 (by decide) rfl ⟨by first | omega | (split <;> omega), by first | omega | (split <;> omega)⟩ ⟨by first | omega | (split <;> omega), by first | omega | (split <;> omega)⟩ (fun (c6_3 : ((((gv (σ.1 6) g) - (σ.1 6 ((g * 3) + w))) + a) : Int) ≤ (σ.1 2 g)) => ?_) (fun (c6_3 : ¬ (((((gv (σ.1 6) g) - (σ.1 6 ((g * 3) + w))) + a) : Int) ≤ (σ.1 2 g))) => ?_)
      · refine e_aload_n (pc' := 69) dX10_give_68 rfl rfl ?_
        refine e_getR (pc' := 72) dX10_give_69 rfl f_10_10 h_0 rfl ?_
        refine e_getR (pc' := 75) dX10_give_72 rfl f_10_152 h_1 rfl ?_
        refine e_iload (pc' := 77) dX10_give_75 rfl rfl ?_
        refine e_iload_n (pc' := 78) dX10_give_77 rfl rfl ?_
        refine e_iast (pc' := 79) dX10_give_78 rfl h_6 (by decide) (by omega) (by omega) ?_
        refine e_iload (pc' := 81) dX10_give_79 rfl rfl ?_
        exact e_iret dX10_give_81 rfl ⟨rfl, Nat.le_refl _⟩ ⟨_, rfl, by dsimp only; (repeat (first | (rw [if_pos (by omega)]) | (rw [if_neg (by omega)]))); first | exact ⟨rfl, rfl⟩ | rfl⟩
      · refine e_bipush (pc' := 67) (z := (-2)) dX10_give_65 rfl (by decide) ?_
        exact e_iret dX10_give_67 rfl ⟨rfl, Nat.le_refl _⟩ ⟨_, rfl, by dsimp only; (repeat (first | (rw [if_pos (by omega)]) | (rw [if_neg (by omega)]))); first | exact ⟨rfl, rfl⟩ | rfl⟩
    · have c4_2n : ¬ (0 ≤ a ∧ a ≤ 12) := fun q => absurd (if_pos q : (if 0 ≤ a ∧ a ≤ 12 then (1 : Int) else 0) = 1) (by have := c4_2; omega)
      refine e_bipush (pc' := 20) (z := (-2)) dX10_give_18 rfl (by decide) ?_
      exact e_iret dX10_give_20 rfl ⟨rfl, Nat.le_refl _⟩ ⟨_, rfl, by dsimp only; (repeat (first | (rw [if_pos (by omega)]) | (rw [if_neg (by omega)]))); first | exact ⟨rfl, rfl⟩ | rfl⟩

set_option maxHeartbeats 4000000 in
set_option maxRecDepth 100000 in
theorem s_count {X : AX} {d : Nat} {σ : SG} (ho : ScOK σ 1) (w : Int) (hw : rg w) : Ev X 0 0 (d + 2) mX10_count 0 [some (rv 0), some (iv w)] [] σ (QI (fun r σ' => (if w = 0 then r = σ.1 1 6 else if w = 1 then r = σ.1 1 7 else if w = 2 then r = smI (fun g => gv (σ.1 6) g) (σ.1 1 6) else if w = 3 then r = smI (σ.1 2) (σ.1 1 6) else r = -2) ∧ σ' = σ)) := by
  obtain ⟨hw1, hw2⟩ := hw
  have h6 := ho.1
  have h7 := ho.2.1
  refine e_iload_n (pc' := 1) dX10_count_0 rfl rfl ?_
  by_cases k2_1 : w = 0
  · refine e_table (pc' := 32) (off := 31) dX10_count_1 ⟨by first | omega | (split <;> omega), by first | omega | (split <;> omega)⟩  (by rw [k2_1]; rfl) (by decide) ?_
    refine e_aload_n (pc' := 33) dX10_count_32 rfl rfl ?_
    refine e_getR (pc' := 36) dX10_count_33 rfl f_10_10 h_0 rfl ?_
    refine e_getI (pc' := 39) (v := (σ.1 1 6)) dX10_count_36 rfl f_10_93 h_1 rfl rfl ?_
    exact e_iret dX10_count_39 rfl ⟨rfl, Nat.le_refl _⟩ ⟨_, rfl, by dsimp only; (repeat (first | (rw [if_pos (by omega)]) | (rw [if_neg (by omega)]))); first | exact ⟨rfl, rfl⟩ | rfl⟩
  by_cases k2_2 : w = 1
  · refine e_table (pc' := 40) (off := 39) dX10_count_1 ⟨by first | omega | (split <;> omega), by first | omega | (split <;> omega)⟩  (by rw [k2_2]; rfl) (by decide) ?_
    refine e_aload_n (pc' := 41) dX10_count_40 rfl rfl ?_
    refine e_getR (pc' := 44) dX10_count_41 rfl f_10_10 h_0 rfl ?_
    refine e_getI (pc' := 47) (v := (σ.1 1 7)) dX10_count_44 rfl f_10_101 h_1 rfl rfl ?_
    exact e_iret dX10_count_47 rfl ⟨rfl, Nat.le_refl _⟩ ⟨_, rfl, by dsimp only; (repeat (first | (rw [if_pos (by omega)]) | (rw [if_neg (by omega)]))); first | exact ⟨rfl, rfl⟩ | rfl⟩
  by_cases k2_3 : w = 2
  · refine e_table (pc' := 48) (off := 47) dX10_count_1 ⟨by first | omega | (split <;> omega), by first | omega | (split <;> omega)⟩  (by rw [k2_3]; rfl) (by decide) ?_
    refine e_aload_n (pc' := 49) dX10_count_48 rfl rfl ?_
    refine e_getR (pc' := 52) dX10_count_49 rfl f_10_10 h_0 rfl ?_
    refine e_cv0i (pc' := 55) dX10_count_52 rfl k_10_226 h_1 rfl (Nat.le_of_ble_eq_true rfl) rfl rfl ⟨rfl, rfl⟩ ⟨Nat.zero_le _, Nat.zero_le _⟩ (s_givenInAll_1 ho.1) ?_
    intro r σ' hr; rw [hr.1, hr.2]; clear hr
    exact e_iret dX10_count_55 rfl ⟨rfl, Nat.le_refl _⟩ ⟨_, rfl, by dsimp only; (repeat (first | (rw [if_pos (by omega)]) | (rw [if_neg (by omega)]))); first | exact ⟨rfl, rfl⟩ | rfl⟩
  by_cases k2_4 : w = 3
  · refine e_table (pc' := 56) (off := 55) dX10_count_1 ⟨by first | omega | (split <;> omega), by first | omega | (split <;> omega)⟩  (by rw [k2_4]; rfl) (by decide) ?_
    refine e_aload_n (pc' := 57) dX10_count_56 rfl rfl ?_
    refine e_getR (pc' := 60) dX10_count_57 rfl f_10_10 h_0 rfl ?_
    refine e_cv0i (pc' := 63) dX10_count_60 rfl k_10_236 h_1 rfl (Nat.le_of_ble_eq_true rfl) rfl rfl ⟨rfl, rfl⟩ ⟨Nat.zero_le _, Nat.zero_le _⟩ (s_coinInAll_1 ho.1) ?_
    intro r σ' hr; rw [hr.1, hr.2]; clear hr
    exact e_iret dX10_count_63 rfl ⟨rfl, Nat.le_refl _⟩ ⟨_, rfl, by dsimp only; (repeat (first | (rw [if_pos (by omega)]) | (rw [if_neg (by omega)]))); first | exact ⟨rfl, rfl⟩ | rfl⟩
  refine e_table (pc' := 64) (off := 63) dX10_count_1 ⟨by first | omega | (split <;> omega), by first | omega | (split <;> omega)⟩  (by rw [if_pos (by omega)]) (by decide) ?_
  refine e_bipush (pc' := 66) (z := (-2)) dX10_count_64 rfl (by decide) ?_
  exact e_iret dX10_count_66 rfl ⟨rfl, Nat.le_refl _⟩ ⟨_, rfl, by dsimp only; (repeat (first | (rw [if_pos (by omega)]) | (rw [if_neg (by omega)]))); first | exact ⟨rfl, rfl⟩ | rfl⟩
