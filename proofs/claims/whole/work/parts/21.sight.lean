theorem rootZ_rg (i : Int) : 0 ≤ rootZ i ∧ rootZ i ≤ 3464101 := by
  unfold rootZ
  have key : ∀ n : Nat, 0 ≤ rootL.getD n 0 ∧ rootL.getD n 0 ≤ 3464101 := by
    intro n
    rcases Nat.lt_or_ge n 13 with h | h
    · have : ∀ n, n < 13 → 0 ≤ rootL.getD n 0 ∧ rootL.getD n 0 ≤ 3464101 := by decide
      exact this n h
    · rw [List.getD_eq_getElem?_getD, List.getElem?_eq_none (by simpa [rootL] using h)]
      decide
  exact key _
theorem cc1 {c : Int} (h : 0 ≤ c) : 0 ≤ c * (c - 1) := by
  by_cases h1 : 0 < c
  · exact Int.mul_nonneg h (by omega)
  · have : c = 0 := by omega
    rw [this]; decide
theorem cc2 {c : Int} (h : 0 ≤ c) (h2 : c ≤ 60) : c * (c - 1) ≤ 2147483647 := by
  have h3 : c * (c - 1) ≤ 60 * (c - 1) ∨ c = 0 := by
    by_cases h1 : 0 < c
    · left; exact Int.mul_le_mul_of_nonneg_right h2 (by omega)
    · right; omega
  rcases h3 with h3 | h3
  · omega
  · rw [h3]; decide

set_option maxHeartbeats 4000000 in
set_option maxRecDepth 100000 in
theorem s_worthOf_1 {X : AX} {d : Nat} {σ : SG} (g w a : Int) (hg : 0 ≤ g ∧ g < 5) (hw : 0 ≤ w ∧ w < 3) (ha : 0 ≤ a ∧ a ≤ 2000) (hb : 0 ≤ σ.1 3 w ∧ σ.1 3 w ≤ 60) (ht : 0 ≤ σ.1 4 (g * 3 + w) ∧ σ.1 4 (g * 3 + w) ≤ 200) (hs : 0 ≤ σ.1 5 (g * 3 + w) ∧ σ.1 5 (g * 3 + w) ≤ 50) : Ev X 0 0 (d + 1) mX8_worthOf 0 [some (rv 1), some (iv g), some (iv w), some (iv a), none, none, none] [] σ (QI (fun r σ' => σ' = σ ∧ r = wcS (σ.1 3 w) (σ.1 4 (g * 3 + w)) (σ.1 5 (g * 3 + w)) a)) := by
  refine e_iload_n (pc' := 1) dX8_worthOf_0 rfl rfl ?_
  refine e_aload_n (pc' := 2) dX8_worthOf_1 rfl rfl ?_
  refine e_getR (pc' := 5) dX8_worthOf_2 rfl f_8_15 h_1 rfl ?_
  refine e_iload_n (pc' := 6) dX8_worthOf_5 rfl rfl ?_
  refine e_iald (pc' := 7) (v := (σ.1 3 w)) dX8_worthOf_6 rfl h_3 (by decide) (by omega) (by omega) rfl ?_
  refine e_icmpI (pc' := 10) (t := 12) dX8_worthOf_7 (by decide) rfl ⟨by omega, by omega⟩ ⟨by omega, by omega⟩ (fun (c2_1 : (σ.1 3 w) ≤ (a : Int)) => ?_) (fun (c2_1 : ¬ ((σ.1 3 w) ≤ (a : Int))) => ?_)
  · refine e_aload_n (pc' := 13) dX8_worthOf_12 rfl rfl ?_
    refine e_getR (pc' := 16) dX8_worthOf_13 rfl f_8_18 h_1 rfl ?_
    refine e_iload_n (pc' := 17) dX8_worthOf_16 rfl rfl ?_
    refine e_iconst (pc' := 18) dX8_worthOf_17 rfl ?_
    refine e_imul (pc' := 19) dX8_worthOf_18 rfl ?_
    refine e_iload_n (pc' := 20) dX8_worthOf_19 rfl rfl ?_
    refine e_iadd (pc' := 21) dX8_worthOf_20 rfl ?_
    refine e_iald (pc' := 22) (v := (σ.1 4 ((g * 3) + w))) dX8_worthOf_21 rfl h_4 (by decide) (by omega) (by omega) rfl ?_
    refine e_istore (pc' := 24) (L' := [some (rv 1), some (iv g), some (iv w), some (iv a), some (iv (σ.1 4 ((g * 3) + w))), none, none]) dX8_worthOf_22 rfl (by decide) rfl ?_
    refine e_aload_n (pc' := 25) dX8_worthOf_24 rfl rfl ?_
    refine e_getR (pc' := 28) dX8_worthOf_25 rfl f_8_21 h_1 rfl ?_
    refine e_iload_n (pc' := 29) dX8_worthOf_28 rfl rfl ?_
    refine e_iconst (pc' := 30) dX8_worthOf_29 rfl ?_
    refine e_imul (pc' := 31) dX8_worthOf_30 rfl ?_
    refine e_iload_n (pc' := 32) dX8_worthOf_31 rfl rfl ?_
    refine e_iadd (pc' := 33) dX8_worthOf_32 rfl ?_
    refine e_iald (pc' := 34) (v := (σ.1 5 ((g * 3) + w))) dX8_worthOf_33 rfl h_5 (by decide) (by omega) (by omega) rfl ?_
    refine e_istore (pc' := 36) (L' := [some (rv 1), some (iv g), some (iv w), some (iv a), some (iv (σ.1 4 ((g * 3) + w))), some (iv (σ.1 5 ((g * 3) + w))), none]) dX8_worthOf_34 rfl (by decide) rfl ?_
    refine e_iload_n (pc' := 37) dX8_worthOf_36 rfl rfl ?_
    refine e_bipush (pc' := 39) (z := 60) dX8_worthOf_37 rfl (by decide) ?_
    refine e_min (pc' := 42) dX8_worthOf_39 rfl p_8_71 ⟨by omega, by omega⟩ ⟨by omega, by omega⟩ (Nat.le_of_ble_eq_true rfl) ⟨Nat.zero_le _, Nat.zero_le _⟩ ?_
    refine e_istore (pc' := 44) (L' := [some (rv 1), some (iv g), some (iv w), some (iv a), some (iv (σ.1 4 ((g * 3) + w))), some (iv (σ.1 5 ((g * 3) + w))), some (iv (min a 60))]) dX8_worthOf_42 rfl (by decide) rfl ?_
    refine e_iload (pc' := 46) dX8_worthOf_44 rfl rfl ?_
    refine e_ifI (pc' := 49) (t := 66) dX8_worthOf_46 (by decide) rfl ⟨by omega, by omega⟩ (fun (c4_2 : ((σ.1 5 ((g * 3) + w)) : Int) ≤ 0) => ?_) (fun (c4_2 : ¬ (((σ.1 5 ((g * 3) + w)) : Int) ≤ 0)) => ?_)
    · refine e_iload (pc' := 68) dX8_worthOf_66 rfl rfl ?_
      refine e_iload (pc' := 70) dX8_worthOf_68 rfl rfl ?_
      refine e_imul (pc' := 71) dX8_worthOf_70 rfl ?_
      refine e_iload (pc' := 73) dX8_worthOf_71 rfl rfl ?_
      refine e_iload (pc' := 75) dX8_worthOf_73 rfl rfl ?_
      refine e_iload (pc' := 77) dX8_worthOf_75 rfl rfl ?_
      refine e_iconst (pc' := 78) dX8_worthOf_77 rfl ?_
      refine e_isub (pc' := 79) dX8_worthOf_78 rfl ?_
      refine e_imul (pc' := 80) dX8_worthOf_79 rfl ?_
      refine e_iconst (pc' := 81) dX8_worthOf_80 rfl ?_
      refine e_idiv (pc' := 82) dX8_worthOf_81 rfl (by first | omega | exact cc1 (by omega) | exact cc2 (by omega) (by omega)) (by first | omega | exact cc1 (by omega) | exact cc2 (by omega) (by omega)) (by first | omega | exact cc1 (by omega) | exact cc2 (by omega) (by omega)) (by first | omega | exact cc1 (by omega) | exact cc2 (by omega) (by omega)) ?_
      refine e_imul (pc' := 83) dX8_worthOf_82 rfl ?_
      refine e_isub (pc' := 84) dX8_worthOf_83 rfl ?_
      exact e_iret dX8_worthOf_84 rfl ⟨rfl, Nat.le_refl _⟩ ⟨_, rfl, rfl, by unfold wcS; rw [if_neg (by omega)]; first | (rw [if_pos (by omega)]) | (rw [if_neg (by omega)])⟩
    · have hq : 0 ≤ ((σ.1 4 (g * 3 + w)) + (σ.1 5 (g * 3 + w)) - 1) / (σ.1 5 (g * 3 + w)) := Int.ediv_nonneg (by omega) (by omega)
      have hq2 : ((σ.1 4 (g * 3 + w)) + (σ.1 5 (g * 3 + w)) - 1) / (σ.1 5 (g * 3 + w)) ≤ (σ.1 4 (g * 3 + w)) + (σ.1 5 (g * 3 + w)) - 1 := Int.ediv_le_self _ (by omega)
      refine e_iload (pc' := 51) dX8_worthOf_49 rfl rfl ?_
      refine e_iload (pc' := 53) dX8_worthOf_51 rfl rfl ?_
      refine e_iload (pc' := 55) dX8_worthOf_53 rfl rfl ?_
      refine e_iadd (pc' := 56) dX8_worthOf_55 rfl ?_
      refine e_iconst (pc' := 57) dX8_worthOf_56 rfl ?_
      refine e_isub (pc' := 58) dX8_worthOf_57 rfl ?_
      refine e_iload (pc' := 60) dX8_worthOf_58 rfl rfl ?_
      refine e_idiv (pc' := 61) dX8_worthOf_60 rfl (by first | omega | exact cc1 (by omega) | exact cc2 (by omega) (by omega)) (by first | omega | exact cc1 (by omega) | exact cc2 (by omega) (by omega)) (by first | omega | exact cc1 (by omega) | exact cc2 (by omega) (by omega)) (by first | omega | exact cc1 (by omega) | exact cc2 (by omega) (by omega)) ?_
      refine e_min (pc' := 64) dX8_worthOf_61 rfl p_8_71 ⟨by omega, by omega⟩ ⟨by omega, by omega⟩ (Nat.le_of_ble_eq_true rfl) ⟨Nat.zero_le _, Nat.zero_le _⟩ ?_
      refine e_istore (pc' := 66) (L' := [some (rv 1), some (iv g), some (iv w), some (iv a), some (iv (σ.1 4 ((g * 3) + w))), some (iv (σ.1 5 ((g * 3) + w))), some (iv (min (min a 60) ((((σ.1 4 ((g * 3) + w)) + (σ.1 5 ((g * 3) + w))) - 1) / (σ.1 5 ((g * 3) + w)))))]) dX8_worthOf_64 rfl (by decide) rfl ?_
      refine e_iload (pc' := 68) dX8_worthOf_66 rfl rfl ?_
      refine e_iload (pc' := 70) dX8_worthOf_68 rfl rfl ?_
      refine e_imul (pc' := 71) dX8_worthOf_70 rfl ?_
      refine e_iload (pc' := 73) dX8_worthOf_71 rfl rfl ?_
      refine e_iload (pc' := 75) dX8_worthOf_73 rfl rfl ?_
      refine e_iload (pc' := 77) dX8_worthOf_75 rfl rfl ?_
      refine e_iconst (pc' := 78) dX8_worthOf_77 rfl ?_
      refine e_isub (pc' := 79) dX8_worthOf_78 rfl ?_
      refine e_imul (pc' := 80) dX8_worthOf_79 rfl ?_
      refine e_iconst (pc' := 81) dX8_worthOf_80 rfl ?_
      refine e_idiv (pc' := 82) dX8_worthOf_81 rfl (by first | omega | exact cc1 (by omega) | exact cc2 (by omega) (by omega)) (by first | omega | exact cc1 (by omega) | exact cc2 (by omega) (by omega)) (by first | omega | exact cc1 (by omega) | exact cc2 (by omega) (by omega)) (by first | omega | exact cc1 (by omega) | exact cc2 (by omega) (by omega)) ?_
      refine e_imul (pc' := 83) dX8_worthOf_82 rfl ?_
      refine e_isub (pc' := 84) dX8_worthOf_83 rfl ?_
      exact e_iret dX8_worthOf_84 rfl ⟨rfl, Nat.le_refl _⟩ ⟨_, rfl, rfl, by unfold wcS; rw [if_neg (by omega)]; first | (rw [if_pos (by omega)]) | (rw [if_neg (by omega)])⟩
  · refine e_iconst (pc' := 11) dX8_worthOf_10 rfl ?_
    exact e_iret dX8_worthOf_11 rfl ⟨rfl, Nat.le_refl _⟩ ⟨_, rfl, rfl, by unfold wcS; rw [if_pos (by omega)]⟩

set_option maxHeartbeats 4000000 in
set_option maxRecDepth 100000 in
theorem s_worthOf_17 {X : AX} {d : Nat} {σ : SG} (g w a : Int) (hg : 0 ≤ g ∧ g < 5) (hw : 0 ≤ w ∧ w < 3) (ha : 0 ≤ a ∧ a ≤ 2000) (hb : 0 ≤ σ.1 19 w ∧ σ.1 19 w ≤ 60) (ht : 0 ≤ σ.1 20 (g * 3 + w) ∧ σ.1 20 (g * 3 + w) ≤ 200) (hs : 0 ≤ σ.1 21 (g * 3 + w) ∧ σ.1 21 (g * 3 + w) ≤ 50) : Ev X 0 0 (d + 1) mX8_worthOf 0 [some (rv 17), some (iv g), some (iv w), some (iv a), none, none, none] [] σ (QI (fun r σ' => σ' = σ ∧ r = wcS (σ.1 19 w) (σ.1 20 (g * 3 + w)) (σ.1 21 (g * 3 + w)) a)) := by
  refine e_iload_n (pc' := 1) dX8_worthOf_0 rfl rfl ?_
  refine e_aload_n (pc' := 2) dX8_worthOf_1 rfl rfl ?_
  refine e_getR (pc' := 5) dX8_worthOf_2 rfl f_8_15 h_17 rfl ?_
  refine e_iload_n (pc' := 6) dX8_worthOf_5 rfl rfl ?_
  refine e_iald (pc' := 7) (v := (σ.1 19 w)) dX8_worthOf_6 rfl h_19 (by decide) (by omega) (by omega) rfl ?_
  refine e_icmpI (pc' := 10) (t := 12) dX8_worthOf_7 (by decide) rfl ⟨by omega, by omega⟩ ⟨by omega, by omega⟩ (fun (c2_1 : (σ.1 19 w) ≤ (a : Int)) => ?_) (fun (c2_1 : ¬ ((σ.1 19 w) ≤ (a : Int))) => ?_)
  · refine e_aload_n (pc' := 13) dX8_worthOf_12 rfl rfl ?_
    refine e_getR (pc' := 16) dX8_worthOf_13 rfl f_8_18 h_17 rfl ?_
    refine e_iload_n (pc' := 17) dX8_worthOf_16 rfl rfl ?_
    refine e_iconst (pc' := 18) dX8_worthOf_17 rfl ?_
    refine e_imul (pc' := 19) dX8_worthOf_18 rfl ?_
    refine e_iload_n (pc' := 20) dX8_worthOf_19 rfl rfl ?_
    refine e_iadd (pc' := 21) dX8_worthOf_20 rfl ?_
    refine e_iald (pc' := 22) (v := (σ.1 20 ((g * 3) + w))) dX8_worthOf_21 rfl h_20 (by decide) (by omega) (by omega) rfl ?_
    refine e_istore (pc' := 24) (L' := [some (rv 17), some (iv g), some (iv w), some (iv a), some (iv (σ.1 20 ((g * 3) + w))), none, none]) dX8_worthOf_22 rfl (by decide) rfl ?_
    refine e_aload_n (pc' := 25) dX8_worthOf_24 rfl rfl ?_
    refine e_getR (pc' := 28) dX8_worthOf_25 rfl f_8_21 h_17 rfl ?_
    refine e_iload_n (pc' := 29) dX8_worthOf_28 rfl rfl ?_
    refine e_iconst (pc' := 30) dX8_worthOf_29 rfl ?_
    refine e_imul (pc' := 31) dX8_worthOf_30 rfl ?_
    refine e_iload_n (pc' := 32) dX8_worthOf_31 rfl rfl ?_
    refine e_iadd (pc' := 33) dX8_worthOf_32 rfl ?_
    refine e_iald (pc' := 34) (v := (σ.1 21 ((g * 3) + w))) dX8_worthOf_33 rfl h_21 (by decide) (by omega) (by omega) rfl ?_
    refine e_istore (pc' := 36) (L' := [some (rv 17), some (iv g), some (iv w), some (iv a), some (iv (σ.1 20 ((g * 3) + w))), some (iv (σ.1 21 ((g * 3) + w))), none]) dX8_worthOf_34 rfl (by decide) rfl ?_
    refine e_iload_n (pc' := 37) dX8_worthOf_36 rfl rfl ?_
    refine e_bipush (pc' := 39) (z := 60) dX8_worthOf_37 rfl (by decide) ?_
    refine e_min (pc' := 42) dX8_worthOf_39 rfl p_8_71 ⟨by omega, by omega⟩ ⟨by omega, by omega⟩ (Nat.le_of_ble_eq_true rfl) ⟨Nat.zero_le _, Nat.zero_le _⟩ ?_
    refine e_istore (pc' := 44) (L' := [some (rv 17), some (iv g), some (iv w), some (iv a), some (iv (σ.1 20 ((g * 3) + w))), some (iv (σ.1 21 ((g * 3) + w))), some (iv (min a 60))]) dX8_worthOf_42 rfl (by decide) rfl ?_
    refine e_iload (pc' := 46) dX8_worthOf_44 rfl rfl ?_
    refine e_ifI (pc' := 49) (t := 66) dX8_worthOf_46 (by decide) rfl ⟨by omega, by omega⟩ (fun (c4_2 : ((σ.1 21 ((g * 3) + w)) : Int) ≤ 0) => ?_) (fun (c4_2 : ¬ (((σ.1 21 ((g * 3) + w)) : Int) ≤ 0)) => ?_)
    · refine e_iload (pc' := 68) dX8_worthOf_66 rfl rfl ?_
      refine e_iload (pc' := 70) dX8_worthOf_68 rfl rfl ?_
      refine e_imul (pc' := 71) dX8_worthOf_70 rfl ?_
      refine e_iload (pc' := 73) dX8_worthOf_71 rfl rfl ?_
      refine e_iload (pc' := 75) dX8_worthOf_73 rfl rfl ?_
      refine e_iload (pc' := 77) dX8_worthOf_75 rfl rfl ?_
      refine e_iconst (pc' := 78) dX8_worthOf_77 rfl ?_
      refine e_isub (pc' := 79) dX8_worthOf_78 rfl ?_
      refine e_imul (pc' := 80) dX8_worthOf_79 rfl ?_
      refine e_iconst (pc' := 81) dX8_worthOf_80 rfl ?_
      refine e_idiv (pc' := 82) dX8_worthOf_81 rfl (by first | omega | exact cc1 (by omega) | exact cc2 (by omega) (by omega)) (by first | omega | exact cc1 (by omega) | exact cc2 (by omega) (by omega)) (by first | omega | exact cc1 (by omega) | exact cc2 (by omega) (by omega)) (by first | omega | exact cc1 (by omega) | exact cc2 (by omega) (by omega)) ?_
      refine e_imul (pc' := 83) dX8_worthOf_82 rfl ?_
      refine e_isub (pc' := 84) dX8_worthOf_83 rfl ?_
      exact e_iret dX8_worthOf_84 rfl ⟨rfl, Nat.le_refl _⟩ ⟨_, rfl, rfl, by unfold wcS; rw [if_neg (by omega)]; first | (rw [if_pos (by omega)]) | (rw [if_neg (by omega)])⟩
    · have hq : 0 ≤ ((σ.1 20 (g * 3 + w)) + (σ.1 21 (g * 3 + w)) - 1) / (σ.1 21 (g * 3 + w)) := Int.ediv_nonneg (by omega) (by omega)
      have hq2 : ((σ.1 20 (g * 3 + w)) + (σ.1 21 (g * 3 + w)) - 1) / (σ.1 21 (g * 3 + w)) ≤ (σ.1 20 (g * 3 + w)) + (σ.1 21 (g * 3 + w)) - 1 := Int.ediv_le_self _ (by omega)
      refine e_iload (pc' := 51) dX8_worthOf_49 rfl rfl ?_
      refine e_iload (pc' := 53) dX8_worthOf_51 rfl rfl ?_
      refine e_iload (pc' := 55) dX8_worthOf_53 rfl rfl ?_
      refine e_iadd (pc' := 56) dX8_worthOf_55 rfl ?_
      refine e_iconst (pc' := 57) dX8_worthOf_56 rfl ?_
      refine e_isub (pc' := 58) dX8_worthOf_57 rfl ?_
      refine e_iload (pc' := 60) dX8_worthOf_58 rfl rfl ?_
      refine e_idiv (pc' := 61) dX8_worthOf_60 rfl (by first | omega | exact cc1 (by omega) | exact cc2 (by omega) (by omega)) (by first | omega | exact cc1 (by omega) | exact cc2 (by omega) (by omega)) (by first | omega | exact cc1 (by omega) | exact cc2 (by omega) (by omega)) (by first | omega | exact cc1 (by omega) | exact cc2 (by omega) (by omega)) ?_
      refine e_min (pc' := 64) dX8_worthOf_61 rfl p_8_71 ⟨by omega, by omega⟩ ⟨by omega, by omega⟩ (Nat.le_of_ble_eq_true rfl) ⟨Nat.zero_le _, Nat.zero_le _⟩ ?_
      refine e_istore (pc' := 66) (L' := [some (rv 17), some (iv g), some (iv w), some (iv a), some (iv (σ.1 20 ((g * 3) + w))), some (iv (σ.1 21 ((g * 3) + w))), some (iv (min (min a 60) ((((σ.1 20 ((g * 3) + w)) + (σ.1 21 ((g * 3) + w))) - 1) / (σ.1 21 ((g * 3) + w)))))]) dX8_worthOf_64 rfl (by decide) rfl ?_
      refine e_iload (pc' := 68) dX8_worthOf_66 rfl rfl ?_
      refine e_iload (pc' := 70) dX8_worthOf_68 rfl rfl ?_
      refine e_imul (pc' := 71) dX8_worthOf_70 rfl ?_
      refine e_iload (pc' := 73) dX8_worthOf_71 rfl rfl ?_
      refine e_iload (pc' := 75) dX8_worthOf_73 rfl rfl ?_
      refine e_iload (pc' := 77) dX8_worthOf_75 rfl rfl ?_
      refine e_iconst (pc' := 78) dX8_worthOf_77 rfl ?_
      refine e_isub (pc' := 79) dX8_worthOf_78 rfl ?_
      refine e_imul (pc' := 80) dX8_worthOf_79 rfl ?_
      refine e_iconst (pc' := 81) dX8_worthOf_80 rfl ?_
      refine e_idiv (pc' := 82) dX8_worthOf_81 rfl (by first | omega | exact cc1 (by omega) | exact cc2 (by omega) (by omega)) (by first | omega | exact cc1 (by omega) | exact cc2 (by omega) (by omega)) (by first | omega | exact cc1 (by omega) | exact cc2 (by omega) (by omega)) (by first | omega | exact cc1 (by omega) | exact cc2 (by omega) (by omega)) ?_
      refine e_imul (pc' := 83) dX8_worthOf_82 rfl ?_
      refine e_isub (pc' := 84) dX8_worthOf_83 rfl ?_
      exact e_iret dX8_worthOf_84 rfl ⟨rfl, Nat.le_refl _⟩ ⟨_, rfl, rfl, by unfold wcS; rw [if_neg (by omega)]; first | (rw [if_pos (by omega)]) | (rw [if_neg (by omega)])⟩
  · refine e_iconst (pc' := 11) dX8_worthOf_10 rfl ?_
    exact e_iret dX8_worthOf_11 rfl ⟨rfl, Nat.le_refl _⟩ ⟨_, rfl, rfl, by unfold wcS; rw [if_pos (by omega)]⟩

set_option maxHeartbeats 4000000 in
set_option maxRecDepth 100000 in
theorem s_clear {X : AX} {d : Nat} {σ : SG} : Ev X 0 0 d mX9_clear 0 [some (rv 37)] [] σ (QV (fun σ' => SgI σ' st0 ∧ Fr [37] σ σ')) := by
  refine e_aload_n (pc' := 1) dX9_clear_0 rfl rfl ?_
  refine e_iconst (pc' := 2) dX9_clear_1 rfl ?_
  refine e_putI (pc' := 5) dX9_clear_2 rfl f_9_15 h_37 rfl rfl rfl ?_
  refine e_aload_n (pc' := 6) dX9_clear_5 rfl rfl ?_
  refine e_iconst (pc' := 7) dX9_clear_6 rfl ?_
  refine e_putI (pc' := 10) dX9_clear_7 rfl f_9_19 h_37 rfl rfl rfl ?_
  refine e_aload_n (pc' := 11) dX9_clear_10 rfl rfl ?_
  refine e_iconst (pc' := 12) dX9_clear_11 rfl ?_
  refine e_putI (pc' := 15) dX9_clear_12 rfl f_9_22 h_37 rfl rfl rfl ?_
  refine e_aload_n (pc' := 16) dX9_clear_15 rfl rfl ?_
  refine e_iconst (pc' := 17) dX9_clear_16 rfl ?_
  refine e_putI (pc' := 20) dX9_clear_17 rfl f_9_25 h_37 rfl rfl rfl ?_
  refine e_aload_n (pc' := 21) dX9_clear_20 rfl rfl ?_
  refine e_lconst (pc' := 22) (z := 0) dX9_clear_21 rfl rfl ?_
  refine e_putJ (pc' := 25) dX9_clear_22 rfl f_9_28 h_37 rfl rfl rfl ?_
  exact e_vret dX9_clear_25 rfl ⟨rfl, Nat.le_refl _⟩ ⟨rfl, ⟨rfl, rfl, rfl, rfl, rfl⟩, by repeat (first | exact Fr.rf | (refine fr_I ?_ (by decide)) | (refine fr_J ?_ (by decide)))⟩

set_option maxHeartbeats 4000000 in
set_option maxRecDepth 100000 in
theorem s_see {X : AX} {d : Nat} {σ : SG} (t : ST) (c : Int) (hS : SgI σ t) (ht : stOK t) (hc : rg c) : Ev X 0 0 (d + 1) mX9_see 0 [some (rv 37), some (iv c)] [] σ (QV (fun σ' => SgI σ' (seeS t c) ∧ Fr [37] σ σ')) := by
  obtain ⟨hc1, hc2⟩ := hc
  obtain ⟨ht1, ht2, ht3, ht4⟩ := ht
  have hrt : ∀ i : Int, 0 ≤ rootZ i ∧ rootZ i ≤ 3464101 := rootZ_rg
  have hrc := hrt c
  refine e_iload_n (pc' := 1) dX9_see_0 rfl rfl ?_
  refine e_ifI (pc' := 4) (t := 10) dX9_see_1 (by decide) rfl ⟨by omega, by omega⟩ (fun (c2_1 : (c : Int) ≤ 0) => ?_) (fun (c2_1 : ¬ ((c : Int) ≤ 0)) => ?_)
  · exact e_vret dX9_see_10 rfl ⟨rfl, Nat.le_refl _⟩ ⟨rfl, by unfold seeS; rw [if_neg (by omega)]; exact hS, Fr.rf⟩
  · refine e_iload_n (pc' := 5) dX9_see_4 rfl rfl ?_
    refine e_bipush (pc' := 7) (z := 12) dX9_see_5 rfl (by decide) ?_
    refine e_icmpI (pc' := 10) (t := 11) dX9_see_7 (by decide) rfl ⟨by omega, by omega⟩ ⟨by omega, by omega⟩ (fun (c4_2 : (c : Int) ≤ 12) => ?_) (fun (c4_2 : ¬ ((c : Int) ≤ 12)) => ?_)
    · refine e_aload_n (pc' := 12) dX9_see_11 rfl rfl ?_
      refine e_dup (pc' := 13) dX9_see_12 rfl rfl ?_
      refine e_getI (pc' := 16) (v := t.1) dX9_see_13 rfl f_9_15 h_37 rfl hS.1 ?_
      refine e_iload_n (pc' := 17) dX9_see_16 rfl rfl ?_
      refine e_iadd (pc' := 18) dX9_see_17 rfl ?_
      refine e_putI (pc' := 21) dX9_see_18 rfl f_9_15 h_37 rfl rfl rfl ?_
      refine e_aload_n (pc' := 22) dX9_see_21 rfl rfl ?_
      refine e_dup (pc' := 23) dX9_see_22 rfl rfl ?_
      refine e_getI (pc' := 26) (v := t.2.1) dX9_see_23 rfl f_9_19 h_37 rfl hS.2.1 ?_
      refine e_iconst (pc' := 27) dX9_see_26 rfl ?_
      refine e_iadd (pc' := 28) dX9_see_27 rfl ?_
      refine e_putI (pc' := 31) dX9_see_28 rfl f_9_19 h_37 rfl rfl rfl ?_
      refine e_aload_n (pc' := 32) dX9_see_31 rfl rfl ?_
      refine e_aload_n (pc' := 33) dX9_see_32 rfl rfl ?_
      refine e_getI (pc' := 36) (v := t.2.2.1) dX9_see_33 rfl f_9_22 h_37 rfl hS.2.2.1 ?_
      refine e_iload_n (pc' := 37) dX9_see_36 rfl rfl ?_
      refine e_max (pc' := 40) dX9_see_37 rfl p_9_32 ⟨by omega, by omega⟩ ⟨by omega, by omega⟩ (Nat.le_of_ble_eq_true rfl) ⟨Nat.zero_le _, Nat.zero_le _⟩ ?_
      refine e_putI (pc' := 43) dX9_see_40 rfl f_9_22 h_37 rfl rfl rfl ?_
      refine e_aload_n (pc' := 44) dX9_see_43 rfl rfl ?_
      refine e_aload_n (pc' := 45) dX9_see_44 rfl rfl ?_
      refine e_getI (pc' := 48) (v := t.2.2.2.1) dX9_see_45 rfl f_9_25 h_37 rfl hS.2.2.2.1 ?_
      refine e_ifI (pc' := 51) (t := 55) dX9_see_48 (by decide) rfl ⟨by omega, by omega⟩ (fun (c6_3 : (t.2.2.2.1 : Int) ≠ 0) => ?_) (fun (c6_3 : ¬ ((t.2.2.2.1 : Int) ≠ 0)) => ?_)
      · refine e_aload_n (pc' := 56) dX9_see_55 rfl rfl ?_
        refine e_getI (pc' := 59) (v := t.2.2.2.1) dX9_see_56 rfl f_9_25 h_37 rfl hS.2.2.2.1 ?_
        refine e_iload_n (pc' := 60) dX9_see_59 rfl rfl ?_
        refine e_min (pc' := 63) dX9_see_60 rfl p_9_38 ⟨by omega, by omega⟩ ⟨by omega, by omega⟩ (Nat.le_of_ble_eq_true rfl) ⟨Nat.zero_le _, Nat.zero_le _⟩ ?_
        refine e_putI (pc' := 66) dX9_see_63 rfl f_9_25 h_37 rfl rfl rfl ?_
        refine e_aload_n (pc' := 67) dX9_see_66 rfl rfl ?_
        refine e_dup (pc' := 68) dX9_see_67 rfl rfl ?_
        refine e_getJ (pc' := 71) (v := t.2.2.2.2) dX9_see_68 rfl f_9_28 h_37 rfl hS.2.2.2.2 ?_
        refine e_stat (pc' := 74) dX9_see_71 rfl rfl rfl ?_
        refine e_iload_n (pc' := 75) dX9_see_74 rfl rfl ?_
        refine e_root (pc' := 76) dX9_see_75 rfl (by omega) (by omega) ?_
        refine e_i2l (pc' := 77) dX9_see_76 rfl ⟨by omega, by omega⟩ ?_
        refine e_ladd (pc' := 78) dX9_see_77 rfl ?_
        refine e_putJ (pc' := 81) dX9_see_78 rfl f_9_28 h_37 rfl rfl rfl ?_
        exact e_vret dX9_see_81 rfl ⟨rfl, Nat.le_refl _⟩ ⟨rfl, by unfold seeS; rw [if_pos (by omega)]; first | (rw [if_pos (by omega)]; exact ⟨rfl, rfl, rfl, rfl, rfl⟩) | (rw [if_neg (by omega)]; exact ⟨rfl, rfl, rfl, rfl, rfl⟩), (by repeat (first | exact Fr.rf | (refine fr_I ?_ (by decide)) | (refine fr_J ?_ (by decide)) | (refine fr_C ?_ (by decide))))⟩
      · refine e_iload_n (pc' := 52) dX9_see_51 rfl rfl ?_
        refine e_goto (pc' := 63) dX9_see_52 (by decide) ?_
        refine e_putI (pc' := 66) dX9_see_63 rfl f_9_25 h_37 rfl rfl rfl ?_
        refine e_aload_n (pc' := 67) dX9_see_66 rfl rfl ?_
        refine e_dup (pc' := 68) dX9_see_67 rfl rfl ?_
        refine e_getJ (pc' := 71) (v := t.2.2.2.2) dX9_see_68 rfl f_9_28 h_37 rfl hS.2.2.2.2 ?_
        refine e_stat (pc' := 74) dX9_see_71 rfl rfl rfl ?_
        refine e_iload_n (pc' := 75) dX9_see_74 rfl rfl ?_
        refine e_root (pc' := 76) dX9_see_75 rfl (by omega) (by omega) ?_
        refine e_i2l (pc' := 77) dX9_see_76 rfl ⟨by omega, by omega⟩ ?_
        refine e_ladd (pc' := 78) dX9_see_77 rfl ?_
        refine e_putJ (pc' := 81) dX9_see_78 rfl f_9_28 h_37 rfl rfl rfl ?_
        exact e_vret dX9_see_81 rfl ⟨rfl, Nat.le_refl _⟩ ⟨rfl, by unfold seeS; rw [if_pos (by omega)]; first | (rw [if_pos (by omega)]; exact ⟨rfl, rfl, rfl, rfl, rfl⟩) | (rw [if_neg (by omega)]; exact ⟨rfl, rfl, rfl, rfl, rfl⟩), (by repeat (first | exact Fr.rf | (refine fr_I ?_ (by decide)) | (refine fr_J ?_ (by decide)) | (refine fr_C ?_ (by decide))))⟩
    · exact e_vret dX9_see_10 rfl ⟨rfl, Nat.le_refl _⟩ ⟨rfl, by unfold seeS; rw [if_neg (by omega)]; exact hS, Fr.rf⟩
