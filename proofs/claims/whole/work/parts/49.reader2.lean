theorem isLst_tail {f : Int → Int} {l : List Int} (h : isLst f l) : isLst f l.tail := by
  cases l with
  | nil => exact h
  | cons a l => exact h.2

theorem lrS_rg (l : List Int) : 0 ≤ lrS l ∧ lrS l ≤ 6 := by
  cases l with
  | nil => exact ⟨by decide, by decide⟩
  | cons w l => exact rkS_rg w

set_option maxHeartbeats 4000000 in
set_option maxRecDepth 100000 in
theorem s_readDigit_8 {X : AX} {d : Nat} {σ : SG} (n : Int) (st wt : List Int) (br dg wu fl : Int) (hI : RsI σ 8 n (st, wt, br, dg, wu, fl)) (hk : rsOK (st, wt, br, dg, wu, fl)) (p x : Int) (hp : 0 ≤ p ∧ p < 40) (hx : 0 ≤ x ∧ x ≤ 9) : Ev X 0 0 (d + 1) mX5_readDigit 0 [some (rv 35), some (rv 8), some (iv p), some (iv x), none] [] σ (QV (fun σ' => RsI σ' 8 n (dgS (st, wt, br, dg, wu, fl) p x) ∧ Fr [35, 36, 8, 10] σ σ')) := by
  obtain ⟨hk1, hk2, hk3, hk4, hk5, hk6, hk7⟩ := id hk
  simp only at hk1 hk2 hk3 hk4 hk5 hk6 hk7
  cases st with
  | nil =>
    have hl : (([] : List Int).length : Nat) = 0 := rfl
    refine e_aload_n (pc' := 1) dX5_readDigit_0 rfl rfl ?_
    refine e_getI (pc' := 4) (v := (([] : List Int).length : Int)) dX5_readDigit_1 rfl f_5_29 h_8 rfl hI.2.2.2.2.2.1 ?_
    refine e_iconst (pc' := 5) dX5_readDigit_4 rfl ?_
    refine e_isub (pc' := 6) dX5_readDigit_5 rfl ?_
    refine e_istore (pc' := 8) (L' := [some (rv 35), some (rv 8), some (iv p), some (iv x), some (iv ((([] : List Int).length : Int) - 1))]) dX5_readDigit_6 rfl (by decide) rfl ?_
    refine e_aload_n (pc' := 9) dX5_readDigit_8 rfl rfl ?_
    refine e_getI (pc' := 12) (v := dg) dX5_readDigit_9 rfl f_5_22 h_35 rfl hI.2.2.1 ?_
    refine e_bipush (pc' := 14) (z := 6) dX5_readDigit_12 rfl (by decide) ?_
    refine e_icmpI (pc' := 17) (t := 33) dX5_readDigit_14 (by decide) rfl ⟨by omega, by omega⟩ ⟨by omega, by omega⟩ (fun (c4_1 : (dg : Int) ≠ 6) => ?_) (fun (c4_1 : ¬ ((dg : Int) ≠ 6)) => ?_)
    · refine e_aload_n (pc' := 34) dX5_readDigit_33 rfl rfl ?_
      refine e_getI (pc' := 37) (v := dg) dX5_readDigit_34 rfl f_5_22 h_35 rfl hI.2.2.1 ?_
      refine e_ifI (pc' := 40) (t := 77) dX5_readDigit_37 (by decide) rfl ⟨by omega, by omega⟩ (fun (c6_2 : (dg : Int) ≤ 0) => ?_) (fun (c6_2 : ¬ ((dg : Int) ≤ 0)) => ?_)
      · refine e_aload_n (pc' := 78) dX5_readDigit_77 rfl rfl ?_
        refine e_getI (pc' := 81) (v := wu) dX5_readDigit_78 rfl f_5_25 h_35 rfl hI.2.2.2.1 ?_
        refine e_ifI (pc' := 84) (t := 102) dX5_readDigit_81 (by decide) rfl ⟨by omega, by omega⟩ (fun (c8_3 : (wu : Int) = 0) => ?_) (fun (c8_3 : ¬ ((wu : Int) = 0)) => ?_)
        · refine e_aload_n (pc' := 103) dX5_readDigit_102 rfl rfl ?_
          refine e_bipush (pc' := 105) (z := 10) dX5_readDigit_103 rfl (by decide) ?_
          refine e_iload_n (pc' := 106) dX5_readDigit_105 rfl rfl ?_
          refine e_imul (pc' := 107) dX5_readDigit_106 rfl ?_
          refine e_iconst (pc' := 108) dX5_readDigit_107 rfl ?_
          refine e_iadd (pc' := 109) dX5_readDigit_108 rfl ?_
          refine e_putI (pc' := 112) dX5_readDigit_109 rfl f_5_34 h_8 rfl rfl rfl ?_
          exact e_vret dX5_readDigit_112 rfl ⟨rfl, Nat.le_refl _⟩ ⟨rfl, by have e : dgS (([] : List Int), wt, br, dg, wu, fl) p x = (([] : List Int), wt, br, dg, wu, 10 * p + 1) := (by unfold dgS; dsimp only; (repeat (first | (rw [if_pos (by omega)]) | (rw [if_neg (by omega)]))); try rfl); rw [e]; exact ⟨hI.1, hI.2.1, hI.2.2.1, hI.2.2.2.1, hI.2.2.2.2.1, hI.2.2.2.2.2.1, rfl, hI.2.2.2.2.2.2.2.1, hI.2.2.2.2.2.2.2.2⟩, (by repeat (first | exact Fr.rf | assumption | (refine fr_I ?_ (by decide)) | (refine fr_J ?_ (by decide)) | (refine fr_C ?_ (by decide))))⟩
        · refine e_aload_n (pc' := 85) dX5_readDigit_84 rfl rfl ?_
          refine e_iload_n (pc' := 86) dX5_readDigit_85 rfl rfl ?_
          refine e_cv1v (pc' := 89) dX5_readDigit_86 rfl k_5_64 h_8 rfl (Nat.le_of_ble_eq_true rfl) rfl rfl ⟨rfl, rfl⟩ ⟨Nat.zero_le _, Nat.zero_le _⟩ (s_addStep_8 n ([] : List Int) wt br dg wu fl hI hk x) ?_
          rintro τ2 ⟨hI2, hF2⟩
          refine e_aload_n (pc' := 90) dX5_readDigit_89 rfl rfl ?_
          refine e_iconst (pc' := 91) dX5_readDigit_90 rfl ?_
          refine e_putI (pc' := 94) dX5_readDigit_91 rfl f_5_25 h_35 rfl rfl rfl ?_
          refine e_aload_n (pc' := 95) dX5_readDigit_94 rfl rfl ?_
          refine e_iconst (pc' := 96) dX5_readDigit_95 rfl ?_
          refine e_putI (pc' := 99) dX5_readDigit_96 rfl f_5_22 h_35 rfl rfl rfl ?_
          refine e_goto (pc' := 112) dX5_readDigit_99 (by decide) ?_
          exact e_vret dX5_readDigit_112 rfl ⟨rfl, Nat.le_refl _⟩ ⟨rfl, by have e : dgS (([] : List Int), wt, br, dg, wu, fl) p x = (adL x ([] : List Int), wt, br, 1, 0, fl) := (by unfold dgS; dsimp only; (repeat (first | (rw [if_pos (by omega)]) | (rw [if_neg (by omega)]))); try rfl); rw [e]; exact ⟨hI2.1, hI2.2.1, rfl, rfl, hI2.2.2.2.2.1, hI2.2.2.2.2.2.1, hI2.2.2.2.2.2.2.1, hI2.2.2.2.2.2.2.2.1, hI2.2.2.2.2.2.2.2.2⟩, (fr_I (fr_I hF2 (by decide)) (by decide))⟩
      · refine e_iload (pc' := 42) dX5_readDigit_40 rfl rfl ?_
        refine e_ifI (pc' := 45) (t := 77) dX5_readDigit_42 (by decide) rfl ⟨by omega, by omega⟩ (fun (c8_3 : (((([] : List Int).length : Int) - 1) : Int) < 0) => ?_) (fun (c8_3 : ¬ ((((([] : List Int).length : Int) - 1) : Int) < 0)) => absurd (show (((([] : List Int).length : Nat) : Int) - 1 : Int) < 0 by decide) c8_3)
        refine e_aload_n (pc' := 78) dX5_readDigit_77 rfl rfl ?_
        refine e_getI (pc' := 81) (v := wu) dX5_readDigit_78 rfl f_5_25 h_35 rfl hI.2.2.2.1 ?_
        refine e_ifI (pc' := 84) (t := 102) dX5_readDigit_81 (by decide) rfl ⟨by omega, by omega⟩ (fun (c8_4 : (wu : Int) = 0) => ?_) (fun (c8_4 : ¬ ((wu : Int) = 0)) => ?_)
        · refine e_aload_n (pc' := 103) dX5_readDigit_102 rfl rfl ?_
          refine e_bipush (pc' := 105) (z := 10) dX5_readDigit_103 rfl (by decide) ?_
          refine e_iload_n (pc' := 106) dX5_readDigit_105 rfl rfl ?_
          refine e_imul (pc' := 107) dX5_readDigit_106 rfl ?_
          refine e_iconst (pc' := 108) dX5_readDigit_107 rfl ?_
          refine e_iadd (pc' := 109) dX5_readDigit_108 rfl ?_
          refine e_putI (pc' := 112) dX5_readDigit_109 rfl f_5_34 h_8 rfl rfl rfl ?_
          exact e_vret dX5_readDigit_112 rfl ⟨rfl, Nat.le_refl _⟩ ⟨rfl, by have e : dgS (([] : List Int), wt, br, dg, wu, fl) p x = (([] : List Int), wt, br, dg, wu, 10 * p + 1) := (by unfold dgS; dsimp only; (repeat (first | (rw [if_pos (by omega)]) | (rw [if_neg (by omega)]))); try rfl); rw [e]; exact ⟨hI.1, hI.2.1, hI.2.2.1, hI.2.2.2.1, hI.2.2.2.2.1, hI.2.2.2.2.2.1, rfl, hI.2.2.2.2.2.2.2.1, hI.2.2.2.2.2.2.2.2⟩, (by repeat (first | exact Fr.rf | assumption | (refine fr_I ?_ (by decide)) | (refine fr_J ?_ (by decide)) | (refine fr_C ?_ (by decide))))⟩
        · refine e_aload_n (pc' := 85) dX5_readDigit_84 rfl rfl ?_
          refine e_iload_n (pc' := 86) dX5_readDigit_85 rfl rfl ?_
          refine e_cv1v (pc' := 89) dX5_readDigit_86 rfl k_5_64 h_8 rfl (Nat.le_of_ble_eq_true rfl) rfl rfl ⟨rfl, rfl⟩ ⟨Nat.zero_le _, Nat.zero_le _⟩ (s_addStep_8 n ([] : List Int) wt br dg wu fl hI hk x) ?_
          rintro τ2 ⟨hI2, hF2⟩
          refine e_aload_n (pc' := 90) dX5_readDigit_89 rfl rfl ?_
          refine e_iconst (pc' := 91) dX5_readDigit_90 rfl ?_
          refine e_putI (pc' := 94) dX5_readDigit_91 rfl f_5_25 h_35 rfl rfl rfl ?_
          refine e_aload_n (pc' := 95) dX5_readDigit_94 rfl rfl ?_
          refine e_iconst (pc' := 96) dX5_readDigit_95 rfl ?_
          refine e_putI (pc' := 99) dX5_readDigit_96 rfl f_5_22 h_35 rfl rfl rfl ?_
          refine e_goto (pc' := 112) dX5_readDigit_99 (by decide) ?_
          exact e_vret dX5_readDigit_112 rfl ⟨rfl, Nat.le_refl _⟩ ⟨rfl, by have e : dgS (([] : List Int), wt, br, dg, wu, fl) p x = (adL x ([] : List Int), wt, br, 1, 0, fl) := (by unfold dgS; dsimp only; (repeat (first | (rw [if_pos (by omega)]) | (rw [if_neg (by omega)]))); try rfl); rw [e]; exact ⟨hI2.1, hI2.2.1, rfl, rfl, hI2.2.2.2.2.1, hI2.2.2.2.2.2.1, hI2.2.2.2.2.2.2.1, hI2.2.2.2.2.2.2.2.1, hI2.2.2.2.2.2.2.2.2⟩, (fr_I (fr_I hF2 (by decide)) (by decide))⟩
    · refine e_aload_n (pc' := 18) dX5_readDigit_17 rfl rfl ?_
      refine e_bipush (pc' := 20) (z := 10) dX5_readDigit_18 rfl (by decide) ?_
      refine e_iload_n (pc' := 21) dX5_readDigit_20 rfl rfl ?_
      refine e_bipush (pc' := 23) (z := 6) dX5_readDigit_21 rfl (by decide) ?_
      refine e_isub (pc' := 24) dX5_readDigit_23 rfl ?_
      refine e_imul (pc' := 25) dX5_readDigit_24 rfl ?_
      refine e_iconst (pc' := 26) dX5_readDigit_25 rfl ?_
      refine e_iadd (pc' := 27) dX5_readDigit_26 rfl ?_
      refine e_putI (pc' := 30) dX5_readDigit_27 rfl f_5_34 h_8 rfl rfl rfl ?_
      refine e_goto (pc' := 112) dX5_readDigit_30 (by decide) ?_
      exact e_vret dX5_readDigit_112 rfl ⟨rfl, Nat.le_refl _⟩ ⟨rfl, by have e : dgS (([] : List Int), wt, br, dg, wu, fl) p x = (([] : List Int), wt, br, dg, wu, 10 * (p - 6) + 2) := (by unfold dgS; dsimp only; (repeat (first | (rw [if_pos (by omega)]) | (rw [if_neg (by omega)]))); try rfl); rw [e]; exact ⟨hI.1, hI.2.1, hI.2.2.1, hI.2.2.2.1, hI.2.2.2.2.1, hI.2.2.2.2.2.1, rfl, hI.2.2.2.2.2.2.2.1, hI.2.2.2.2.2.2.2.2⟩, (by repeat (first | exact Fr.rf | assumption | (refine fr_I ?_ (by decide)) | (refine fr_J ?_ (by decide)) | (refine fr_C ?_ (by decide))))⟩
  | cons a l =>
    have hl : (a :: l).length = l.length + 1 := rfl
    have ha0 : σ.1 10 (((a :: l).length : Int) - 1) = a := by
      rw [show (((a :: l).length : Int) - 1) = (l.length : Int) by omega]
      exact hI.2.2.2.2.2.2.2.1.1
    refine e_aload_n (pc' := 1) dX5_readDigit_0 rfl rfl ?_
    refine e_getI (pc' := 4) (v := ((a :: l).length : Int)) dX5_readDigit_1 rfl f_5_29 h_8 rfl hI.2.2.2.2.2.1 ?_
    refine e_iconst (pc' := 5) dX5_readDigit_4 rfl ?_
    refine e_isub (pc' := 6) dX5_readDigit_5 rfl ?_
    refine e_istore (pc' := 8) (L' := [some (rv 35), some (rv 8), some (iv p), some (iv x), some (iv (((a :: l).length : Int) - 1))]) dX5_readDigit_6 rfl (by decide) rfl ?_
    refine e_aload_n (pc' := 9) dX5_readDigit_8 rfl rfl ?_
    refine e_getI (pc' := 12) (v := dg) dX5_readDigit_9 rfl f_5_22 h_35 rfl hI.2.2.1 ?_
    refine e_bipush (pc' := 14) (z := 6) dX5_readDigit_12 rfl (by decide) ?_
    refine e_icmpI (pc' := 17) (t := 33) dX5_readDigit_14 (by decide) rfl ⟨by omega, by omega⟩ ⟨by omega, by omega⟩ (fun (c4_1 : (dg : Int) ≠ 6) => ?_) (fun (c4_1 : ¬ ((dg : Int) ≠ 6)) => ?_)
    · refine e_aload_n (pc' := 34) dX5_readDigit_33 rfl rfl ?_
      refine e_getI (pc' := 37) (v := dg) dX5_readDigit_34 rfl f_5_22 h_35 rfl hI.2.2.1 ?_
      refine e_ifI (pc' := 40) (t := 77) dX5_readDigit_37 (by decide) rfl ⟨by omega, by omega⟩ (fun (c6_2 : (dg : Int) ≤ 0) => ?_) (fun (c6_2 : ¬ ((dg : Int) ≤ 0)) => ?_)
      · refine e_aload_n (pc' := 78) dX5_readDigit_77 rfl rfl ?_
        refine e_getI (pc' := 81) (v := wu) dX5_readDigit_78 rfl f_5_25 h_35 rfl hI.2.2.2.1 ?_
        refine e_ifI (pc' := 84) (t := 102) dX5_readDigit_81 (by decide) rfl ⟨by omega, by omega⟩ (fun (c8_3 : (wu : Int) = 0) => ?_) (fun (c8_3 : ¬ ((wu : Int) = 0)) => ?_)
        · refine e_aload_n (pc' := 103) dX5_readDigit_102 rfl rfl ?_
          refine e_bipush (pc' := 105) (z := 10) dX5_readDigit_103 rfl (by decide) ?_
          refine e_iload_n (pc' := 106) dX5_readDigit_105 rfl rfl ?_
          refine e_imul (pc' := 107) dX5_readDigit_106 rfl ?_
          refine e_iconst (pc' := 108) dX5_readDigit_107 rfl ?_
          refine e_iadd (pc' := 109) dX5_readDigit_108 rfl ?_
          refine e_putI (pc' := 112) dX5_readDigit_109 rfl f_5_34 h_8 rfl rfl rfl ?_
          exact e_vret dX5_readDigit_112 rfl ⟨rfl, Nat.le_refl _⟩ ⟨rfl, by have e : dgS ((a :: l), wt, br, dg, wu, fl) p x = ((a :: l), wt, br, dg, wu, 10 * p + 1) := (by unfold dgS; dsimp only; (repeat (first | (rw [if_pos (by omega)]) | (rw [if_neg (by omega)]))); try rfl); rw [e]; exact ⟨hI.1, hI.2.1, hI.2.2.1, hI.2.2.2.1, hI.2.2.2.2.1, hI.2.2.2.2.2.1, rfl, hI.2.2.2.2.2.2.2.1, hI.2.2.2.2.2.2.2.2⟩, (by repeat (first | exact Fr.rf | assumption | (refine fr_I ?_ (by decide)) | (refine fr_J ?_ (by decide)) | (refine fr_C ?_ (by decide))))⟩
        · refine e_aload_n (pc' := 85) dX5_readDigit_84 rfl rfl ?_
          refine e_iload_n (pc' := 86) dX5_readDigit_85 rfl rfl ?_
          refine e_cv1v (pc' := 89) dX5_readDigit_86 rfl k_5_64 h_8 rfl (Nat.le_of_ble_eq_true rfl) rfl rfl ⟨rfl, rfl⟩ ⟨Nat.zero_le _, Nat.zero_le _⟩ (s_addStep_8 n (a :: l) wt br dg wu fl hI hk x) ?_
          rintro τ2 ⟨hI2, hF2⟩
          refine e_aload_n (pc' := 90) dX5_readDigit_89 rfl rfl ?_
          refine e_iconst (pc' := 91) dX5_readDigit_90 rfl ?_
          refine e_putI (pc' := 94) dX5_readDigit_91 rfl f_5_25 h_35 rfl rfl rfl ?_
          refine e_aload_n (pc' := 95) dX5_readDigit_94 rfl rfl ?_
          refine e_iconst (pc' := 96) dX5_readDigit_95 rfl ?_
          refine e_putI (pc' := 99) dX5_readDigit_96 rfl f_5_22 h_35 rfl rfl rfl ?_
          refine e_goto (pc' := 112) dX5_readDigit_99 (by decide) ?_
          exact e_vret dX5_readDigit_112 rfl ⟨rfl, Nat.le_refl _⟩ ⟨rfl, by have e : dgS ((a :: l), wt, br, dg, wu, fl) p x = (adL x (a :: l), wt, br, 1, 0, fl) := (by unfold dgS; dsimp only; (repeat (first | (rw [if_pos (by omega)]) | (rw [if_neg (by omega)]))); try rfl); rw [e]; exact ⟨hI2.1, hI2.2.1, rfl, rfl, hI2.2.2.2.2.1, hI2.2.2.2.2.2.1, hI2.2.2.2.2.2.2.1, hI2.2.2.2.2.2.2.2.1, hI2.2.2.2.2.2.2.2.2⟩, (fr_I (fr_I hF2 (by decide)) (by decide))⟩
      · refine e_iload (pc' := 42) dX5_readDigit_40 rfl rfl ?_
        refine e_ifI (pc' := 45) (t := 77) dX5_readDigit_42 (by decide) rfl ⟨by omega, by omega⟩ (fun (c8_3 : ((((a :: l).length : Int) - 1) : Int) < 0) => absurd c8_3 (show ¬ (((a :: l).length : Int) - 1 < 0) by omega)) (fun (c8_3 : ¬ (((((a :: l).length : Int) - 1) : Int) < 0)) => ?_)
        refine e_aload_n (pc' := 46) dX5_readDigit_45 rfl rfl ?_
        refine e_getR (pc' := 49) dX5_readDigit_46 rfl f_5_61 h_8 rfl ?_
        refine e_iload (pc' := 51) dX5_readDigit_49 rfl rfl ?_
        refine e_bipush (pc' := 53) (z := 10) dX5_readDigit_51 rfl (by decide) ?_
        refine e_aload_n (pc' := 54) dX5_readDigit_53 rfl rfl ?_
        refine e_getR (pc' := 57) dX5_readDigit_54 rfl f_5_61 h_8 rfl ?_
        refine e_iload (pc' := 59) dX5_readDigit_57 rfl rfl ?_
        refine e_iald (pc' := 60) (v := a) dX5_readDigit_59 rfl h_10 (by decide) (by omega) (by omega) ha0 ?_
        refine e_imul (pc' := 61) dX5_readDigit_60 rfl ?_
        refine e_iload_n (pc' := 62) dX5_readDigit_61 rfl rfl ?_
        refine e_iadd (pc' := 63) dX5_readDigit_62 rfl ?_
        refine e_iast (pc' := 64) dX5_readDigit_63 rfl h_10 (by decide) (by omega) (by omega) ?_
        refine e_aload_n (pc' := 65) dX5_readDigit_64 rfl rfl ?_
        refine e_dup (pc' := 66) dX5_readDigit_65 rfl rfl ?_
        refine e_getI (pc' := 69) (v := dg) dX5_readDigit_66 rfl f_5_22 h_35 rfl hI.2.2.1 ?_
        refine e_iconst (pc' := 70) dX5_readDigit_69 rfl ?_
        refine e_iadd (pc' := 71) dX5_readDigit_70 rfl ?_
        refine e_putI (pc' := 74) dX5_readDigit_71 rfl f_5_22 h_35 rfl rfl rfl ?_
        refine e_goto (pc' := 112) dX5_readDigit_74 (by decide) ?_
        exact e_vret dX5_readDigit_112 rfl ⟨rfl, Nat.le_refl _⟩ ⟨rfl, by have e : dgS ((a :: l), wt, br, dg, wu, fl) p x = ((10 * a + x) :: l, wt, br, dg + 1, wu, fl) := (by unfold dgS; dsimp only; (repeat (first | (rw [if_pos (by omega)]) | (rw [if_neg (by omega)]))); try rfl); rw [e]; exact ⟨hI.1, hI.2.1, rfl, hI.2.2.2.1, hI.2.2.2.2.1, (hI.2.2.2.2.2.1 : σ.1 8 3 = _), hI.2.2.2.2.2.2.1, ⟨if_pos ⟨rfl, by omega⟩, isLst_upI (σ := σ) (q := 10) (by omega) hI.2.2.2.2.2.2.2.1.2⟩, hI.2.2.2.2.2.2.2.2⟩, (by repeat (first | exact Fr.rf | assumption | (refine fr_I ?_ (by decide)) | (refine fr_J ?_ (by decide)) | (refine fr_C ?_ (by decide))))⟩
    · refine e_aload_n (pc' := 18) dX5_readDigit_17 rfl rfl ?_
      refine e_bipush (pc' := 20) (z := 10) dX5_readDigit_18 rfl (by decide) ?_
      refine e_iload_n (pc' := 21) dX5_readDigit_20 rfl rfl ?_
      refine e_bipush (pc' := 23) (z := 6) dX5_readDigit_21 rfl (by decide) ?_
      refine e_isub (pc' := 24) dX5_readDigit_23 rfl ?_
      refine e_imul (pc' := 25) dX5_readDigit_24 rfl ?_
      refine e_iconst (pc' := 26) dX5_readDigit_25 rfl ?_
      refine e_iadd (pc' := 27) dX5_readDigit_26 rfl ?_
      refine e_putI (pc' := 30) dX5_readDigit_27 rfl f_5_34 h_8 rfl rfl rfl ?_
      refine e_goto (pc' := 112) dX5_readDigit_30 (by decide) ?_
      exact e_vret dX5_readDigit_112 rfl ⟨rfl, Nat.le_refl _⟩ ⟨rfl, by have e : dgS ((a :: l), wt, br, dg, wu, fl) p x = ((a :: l), wt, br, dg, wu, 10 * (p - 6) + 2) := (by unfold dgS; dsimp only; (repeat (first | (rw [if_pos (by omega)]) | (rw [if_neg (by omega)]))); try rfl); rw [e]; exact ⟨hI.1, hI.2.1, hI.2.2.1, hI.2.2.2.1, hI.2.2.2.2.1, hI.2.2.2.2.2.1, rfl, hI.2.2.2.2.2.2.2.1, hI.2.2.2.2.2.2.2.2⟩, (by repeat (first | exact Fr.rf | assumption | (refine fr_I ?_ (by decide)) | (refine fr_J ?_ (by decide)) | (refine fr_C ?_ (by decide))))⟩

set_option maxHeartbeats 4000000 in
set_option maxRecDepth 100000 in
theorem s_closeBracket_8 {X : AX} {d : Nat} {σ : SG} (n : Int) (st wt : List Int) (br dg wu fl : Int) (hI : RsI σ 8 n (st, wt, br, dg, wu, fl)) (hk : rsOK (st, wt, br, dg, wu, fl)) : Ev X 0 0 (d + 2) mX5_closeBracket 0 [some (rv 35), some (rv 8)] [] σ (QI (fun v σ' => v = (cbS (st, wt, br, dg, wu, fl)).2 ∧ RsI σ' 8 n (cbS (st, wt, br, dg, wu, fl)).1 ∧ Fr [35, 36, 8, 10] σ σ')) := by
  obtain ⟨hk1, hk2, hk3, hk4, hk5, hk6, hk7⟩ := id hk
  simp only at hk1 hk2 hk3 hk4 hk5 hk6 hk7
  refine e_aload_n (pc' := 1) dX5_closeBracket_0 rfl rfl ?_
  refine e_getI (pc' := 4) (v := br) dX5_closeBracket_1 rfl f_5_19 h_35 rfl hI.2.1 ?_
  refine e_ifI (pc' := 7) (t := 9) dX5_closeBracket_4 (by decide) rfl ⟨by omega, by omega⟩ (fun (c2_1 : (br : Int) ≠ 0) => ?_) (fun (c2_1 : ¬ ((br : Int) ≠ 0)) => ?_)
  · refine e_aload_n (pc' := 10) dX5_closeBracket_9 rfl rfl ?_
    refine e_aload_n (pc' := 11) dX5_closeBracket_10 rfl rfl ?_
    refine e_iconst (pc' := 12) dX5_closeBracket_11 rfl ?_
    refine e_cv2v (pc' := 15) dX5_closeBracket_12 rfl k_5_44 h_35 rfl (Nat.le_of_ble_eq_true rfl) rfl rfl ⟨rfl, rfl⟩ ⟨Nat.zero_le _, Nat.zero_le _⟩ (s_release_8 n br dg wu fl 1 ⟨by decide, by decide⟩ wt st _ hI hk) ?_
    rintro τ2 ⟨hI2, hF2⟩
    have hro := rlS_ok 1 wt st hk1 hk2 hk7
    refine e_aload_n (pc' := 16) dX5_closeBracket_15 rfl rfl ?_
    refine e_dup (pc' := 17) dX5_closeBracket_16 rfl rfl ?_
    refine e_getI (pc' := 20) (v := br) dX5_closeBracket_17 rfl f_5_19 h_35 rfl hI2.2.1 ?_
    refine e_iconst (pc' := 21) dX5_closeBracket_20 rfl ?_
    refine e_isub (pc' := 22) dX5_closeBracket_21 rfl ?_
    refine e_putI (pc' := 25) dX5_closeBracket_22 rfl f_5_19 h_35 rfl rfl rfl ?_
    refine e_aload_n (pc' := 26) dX5_closeBracket_25 rfl rfl ?_
    refine e_getI (pc' := 29) (v := ((rlS 1 wt st).1.length : Int)) dX5_closeBracket_26 rfl f_5_15 h_35 rfl hI2.1 ?_
    refine e_ifI (pc' := 32) (t := 42) dX5_closeBracket_29 (by decide) rfl ⟨by omega, by omega⟩ (fun (c4_2 : (((rlS 1 wt st).1.length : Int) : Int) ≤ 0) => ?_) (fun (c4_2 : ¬ ((((rlS 1 wt st).1.length : Int) : Int) ≤ 0)) => ?_)
    · refine e_iconst (pc' := 43) dX5_closeBracket_42 rfl ?_
      exact e_zret dX5_closeBracket_43 rfl (by decide) ⟨rfl, Nat.le_refl _⟩ (by
    have e : cbS (st, wt, br, dg, wu, fl) = (((rlS 1 wt st).2, (rlS 1 wt st).1.tail, br - 1, dg, wu, fl), 1) := (by unfold cbS; dsimp only; rw [if_neg (by omega)])
    rw [e]
    exact ⟨_, rfl, rfl, ⟨by have := hI2.1; show τ2.1 35 1 = ((rlS 1 wt st).1.tail.length : Int); rw [List.length_tail, this]; dsimp only; omega, rfl, hI2.2.2.1, hI2.2.2.2.1, isLst_tail hI2.2.2.2.2.1, hI2.2.2.2.2.2.1, hI2.2.2.2.2.2.2.1, hI2.2.2.2.2.2.2.2.1, hI2.2.2.2.2.2.2.2.2⟩, (fr_I hF2 (by decide))⟩)
    · refine e_aload_n (pc' := 33) dX5_closeBracket_32 rfl rfl ?_
      refine e_dup (pc' := 34) dX5_closeBracket_33 rfl rfl ?_
      refine e_getI (pc' := 37) (v := ((rlS 1 wt st).1.length : Int)) dX5_closeBracket_34 rfl f_5_15 h_35 rfl hI2.1 ?_
      refine e_iconst (pc' := 38) dX5_closeBracket_37 rfl ?_
      refine e_isub (pc' := 39) dX5_closeBracket_38 rfl ?_
      refine e_putI (pc' := 42) dX5_closeBracket_39 rfl f_5_15 h_35 rfl rfl rfl ?_
      refine e_iconst (pc' := 43) dX5_closeBracket_42 rfl ?_
      exact e_zret dX5_closeBracket_43 rfl (by decide) ⟨rfl, Nat.le_refl _⟩ (by
    have e : cbS (st, wt, br, dg, wu, fl) = (((rlS 1 wt st).2, (rlS 1 wt st).1.tail, br - 1, dg, wu, fl), 1) := (by unfold cbS; dsimp only; rw [if_neg (by omega)])
    rw [e]
    exact ⟨_, rfl, rfl, ⟨by show ((rlS 1 wt st).1.length : Int) - 1 = ((rlS 1 wt st).1.tail.length : Int); rw [List.length_tail]; omega, rfl, hI2.2.2.1, hI2.2.2.2.1, isLst_tail hI2.2.2.2.2.1, hI2.2.2.2.2.2.1, hI2.2.2.2.2.2.2.1, hI2.2.2.2.2.2.2.2.1, hI2.2.2.2.2.2.2.2.2⟩, (fr_I (fr_I hF2 (by decide)) (by decide))⟩)
  · refine e_iconst (pc' := 8) dX5_closeBracket_7 rfl ?_
    exact e_zret dX5_closeBracket_8 rfl (by decide) ⟨rfl, Nat.le_refl _⟩ ⟨_, rfl, by unfold cbS; dsimp only; rw [if_pos (by omega)], by unfold cbS; dsimp only; rw [if_pos (by omega)]; exact hI, Fr.rf⟩

set_option maxHeartbeats 4000000 in
set_option maxRecDepth 100000 in
theorem s_lastRank_8 {X : AX} {d : Nat} {σ : SG} (n : Int) (st wt : List Int) (br dg wu fl : Int) (hI : RsI σ 8 n (st, wt, br, dg, wu, fl)) (hk : rsOK (st, wt, br, dg, wu, fl)) : Ev X 0 0 (d + 1) mX5_lastRank 0 [some (rv 35)] [] σ (QI (fun v σ' => σ' = σ ∧ v = lrS wt)) := by
  obtain ⟨hk1, hk2, hk3, hk4, hk5, hk6, hk7⟩ := id hk
  simp only at hk1 hk2 hk3 hk4 hk5 hk6 hk7
  cases wt with
  | nil =>
    refine e_aload_n (pc' := 1) dX5_lastRank_0 rfl rfl ?_
    refine e_getI (pc' := 4) (v := (([] : List Int).length : Int)) dX5_lastRank_1 rfl f_5_15 h_35 rfl hI.1 ?_
    refine e_ifI (pc' := 7) (t := 24) dX5_lastRank_4 (by decide) rfl ⟨by omega, by omega⟩ (fun (c4_1 : ((([] : List Int).length : Int) : Int) ≤ 0) => ?_) (fun (c4_1 : ¬ (((([] : List Int).length : Int) : Int) ≤ 0)) => absurd (show ((([] : List Int).length : Nat) : Int) ≤ 0 by decide) c4_1)
    refine e_iconst (pc' := 25) dX5_lastRank_24 rfl ?_
    exact e_iret dX5_lastRank_25 rfl ⟨rfl, Nat.le_refl _⟩ ⟨_, rfl, rfl, rfl⟩
  | cons w ws =>
    have hl : (w :: ws).length = ws.length + 1 := rfl
    have hww : chr7 w := hk7 w List.mem_cons_self
    have hw1 := hww.1
    have hw2 := hww.2
    have hw0 : σ.1 36 (((w :: ws).length : Int) - 1) = w := by
      rw [show (((w :: ws).length : Int) - 1) = (ws.length : Int) by omega]
      exact hI.2.2.2.2.1.1
    refine e_aload_n (pc' := 1) dX5_lastRank_0 rfl rfl ?_
    refine e_getI (pc' := 4) (v := ((w :: ws).length : Int)) dX5_lastRank_1 rfl f_5_15 h_35 rfl hI.1 ?_
    refine e_ifI (pc' := 7) (t := 24) dX5_lastRank_4 (by decide) rfl ⟨by omega, by omega⟩ (fun (c4_1 : (((w :: ws).length : Int) : Int) ≤ 0) => absurd c4_1 (show ¬ ((w :: ws).length : Int) ≤ 0 by omega)) (fun (c4_1 : ¬ ((((w :: ws).length : Int) : Int) ≤ 0)) => ?_)
    refine e_aload_n (pc' := 8) dX5_lastRank_7 rfl rfl ?_
    refine e_getR (pc' := 11) dX5_lastRank_8 rfl f_5_9 h_35 rfl ?_
    refine e_aload_n (pc' := 12) dX5_lastRank_11 rfl rfl ?_
    refine e_getI (pc' := 15) (v := ((w :: ws).length : Int)) dX5_lastRank_12 rfl f_5_15 h_35 rfl hI.1 ?_
    refine e_iconst (pc' := 16) dX5_lastRank_15 rfl ?_
    refine e_isub (pc' := 17) dX5_lastRank_16 rfl ?_
    refine e_iald (pc' := 18) (v := w) dX5_lastRank_17 rfl h_36 (by decide) (by omega) (by omega) hw0 ?_
    refine e_cs1i (pc' := 21) dX5_lastRank_18 rfl pn_5_75 k_5_75 (Nat.le_of_ble_eq_true rfl) rfl rfl ⟨rfl, rfl⟩ ⟨Nat.zero_le _, Nat.zero_le _⟩ (s_rankOf w ⟨by omega, by omega⟩) ?_
    intro r σ' hr; rw [hr.1, hr.2]; clear hr
    refine e_goto (pc' := 25) dX5_lastRank_21 (by decide) ?_
    exact e_iret dX5_lastRank_25 rfl ⟨rfl, Nat.le_refl _⟩ ⟨_, rfl, rfl, rfl⟩

set_option maxHeartbeats 4000000 in
set_option maxRecDepth 100000 in
theorem s_readUnit_8 {X : AX} {d : Nat} {σ : SG} (n : Int) (st wt : List Int) (br dg wu fl : Int) (hI : RsI σ 8 n (st, wt, br, dg, wu, fl)) (hk : rsOK (st, wt, br, dg, wu, fl)) (p c : Int) (hp : 0 ≤ p ∧ p < 40) (hc : σ.1 9 p = c) (hcc : chr7 c) : Ev X 0 0 (d + 1) mX5_readUnit 0 [some (rv 35), some (rv 8), some (iv p), none] [] σ (QI (fun v σ' => v = (cuS (st, wt, br, dg, wu, fl) p c).2 ∧ RsI σ' 8 n (cuS (st, wt, br, dg, wu, fl) p c).1 ∧ Fr [35, 36, 8, 10] σ σ')) := by
  obtain ⟨hk1, hk2, hk3, hk4, hk5, hk6, hk7⟩ := id hk
  simp only at hk1 hk2 hk3 hk4 hk5 hk6 hk7
  obtain ⟨hc1, hc2⟩ := id hcc
  refine e_aload_n (pc' := 1) dX5_readUnit_0 rfl rfl ?_
  refine e_getR (pc' := 4) dX5_readUnit_1 rfl f_5_47 h_8 rfl ?_
  refine e_iload_n (pc' := 5) dX5_readUnit_4 rfl rfl ?_
  refine e_iald (pc' := 6) (v := c) dX5_readUnit_5 rfl h_9 (by decide) (by omega) (by omega) hc ?_
  refine e_istore_n (pc' := 7) (L' := [some (rv 35), some (rv 8), some (iv p), some (iv c)]) dX5_readUnit_6 rfl (by decide) rfl ?_
  refine e_iload_n (pc' := 8) dX5_readUnit_7 rfl rfl ?_
  by_cases k2_1 : c = 33
  · refine e_lookup (pc' := 97) (off := 89) dX5_readUnit_8 ⟨by omega, by omega⟩ (by decide) (by rw [k2_1]; rfl) (by decide) ?_
    refine e_aload_n (pc' := 98) dX5_readUnit_97 rfl rfl ?_
    refine e_bipush (pc' := 100) (z := 33) dX5_readUnit_98 rfl (by decide) ?_
    refine e_cv1v (pc' := 103) dX5_readUnit_100 rfl k_5_68 h_35 rfl (Nat.le_of_ble_eq_true rfl) rfl rfl ⟨rfl, rfl⟩ ⟨Nat.zero_le _, Nat.zero_le _⟩ (s_hold_r8 n st wt br dg wu fl hI hk 33) ?_
    rintro τ2 ⟨hI2, hF2⟩
    refine e_iconst (pc' := 104) dX5_readUnit_103 rfl ?_
    exact e_zret dX5_readUnit_104 rfl (by decide) ⟨rfl, Nat.le_refl _⟩ (by
    have e : cuS (st, wt, br, dg, wu, fl) p c = ((st, adL 33 wt, br, dg, wu, fl), 1) := (by unfold cuS; dsimp only; (repeat (first | (rw [if_pos (by omega)]) | (rw [if_neg (by omega)]))); try rfl)
    rw [e]
    exact ⟨_, rfl, rfl, hI2, hF2⟩)
  by_cases k2_2 : c = 40
  · refine e_lookup (pc' := 113) (off := 105) dX5_readUnit_8 ⟨by omega, by omega⟩ (by decide) (by rw [k2_2]; rfl) (by decide) ?_
    refine e_aload_n (pc' := 114) dX5_readUnit_113 rfl rfl ?_
    refine e_getI (pc' := 117) (v := br) dX5_readUnit_114 rfl f_5_19 h_35 rfl hI.2.1 ?_
    refine e_bipush (pc' := 119) (z := 8) dX5_readUnit_117 rfl (by decide) ?_
    refine e_icmpI (pc' := 122) (t := 134) dX5_readUnit_119 (by decide) rfl ⟨by omega, by omega⟩ ⟨by omega, by omega⟩ (fun (c4_3 : (br : Int) < 8) => ?_) (fun (c4_3 : ¬ ((br : Int) < 8)) => ?_)
    · refine e_aload_n (pc' := 135) dX5_readUnit_134 rfl rfl ?_
      refine e_dup (pc' := 136) dX5_readUnit_135 rfl rfl ?_
      refine e_getI (pc' := 139) (v := br) dX5_readUnit_136 rfl f_5_19 h_35 rfl hI.2.1 ?_
      refine e_iconst (pc' := 140) dX5_readUnit_139 rfl ?_
      refine e_iadd (pc' := 141) dX5_readUnit_140 rfl ?_
      refine e_putI (pc' := 144) dX5_readUnit_141 rfl f_5_19 h_35 rfl rfl rfl ?_
      have hIb : RsI (upI σ 35 2 (br + 1)) 8 n (st, wt, br + 1, dg, wu, fl) := ⟨hI.1, rfl, hI.2.2.1, hI.2.2.2.1, hI.2.2.2.2.1, hI.2.2.2.2.2.1, hI.2.2.2.2.2.2.1, hI.2.2.2.2.2.2.2.1, hI.2.2.2.2.2.2.2.2⟩
      have hkb : rsOK (st, wt, br + 1, dg, wu, fl) := ⟨hk1, hk2, ⟨by show 0 ≤ br + 1; omega, by show br + 1 ≤ 8; omega⟩, hk4, hk5, hk6, hk7⟩
      refine e_aload_n (pc' := 145) dX5_readUnit_144 rfl rfl ?_
      refine e_bipush (pc' := 147) (z := 40) dX5_readUnit_145 rfl (by decide) ?_
      refine e_cv1v (pc' := 150) dX5_readUnit_147 rfl k_5_68 h_35 rfl (Nat.le_of_ble_eq_true rfl) rfl rfl ⟨rfl, rfl⟩ ⟨Nat.zero_le _, Nat.zero_le _⟩ (s_hold_r8 n st wt (br + 1) dg wu fl hIb hkb 40) ?_
      rintro τ2 ⟨hI2, hF2⟩
      refine e_iconst (pc' := 151) dX5_readUnit_150 rfl ?_
      exact e_zret dX5_readUnit_151 rfl (by decide) ⟨rfl, Nat.le_refl _⟩ (by
    have e : cuS (st, wt, br, dg, wu, fl) p c = ((st, adL 40 wt, (br + 1), dg, wu, fl), 1) := (by unfold cuS; dsimp only; (repeat (first | (rw [if_pos (by omega)]) | (rw [if_neg (by omega)]))); try rfl)
    rw [e]
    exact ⟨_, rfl, rfl, hI2, ((fr_I Fr.rf (by decide)).tr hF2)⟩)
    · refine e_aload_n (pc' := 123) dX5_readUnit_122 rfl rfl ?_
      refine e_bipush (pc' := 125) (z := 10) dX5_readUnit_123 rfl (by decide) ?_
      refine e_iload_n (pc' := 126) dX5_readUnit_125 rfl rfl ?_
      refine e_imul (pc' := 127) dX5_readUnit_126 rfl ?_
      refine e_iconst (pc' := 128) dX5_readUnit_127 rfl ?_
      refine e_iadd (pc' := 129) dX5_readUnit_128 rfl ?_
      refine e_putI (pc' := 132) dX5_readUnit_129 rfl f_5_34 h_8 rfl rfl rfl ?_
      refine e_iconst (pc' := 133) dX5_readUnit_132 rfl ?_
      exact e_zret dX5_readUnit_133 rfl (by decide) ⟨rfl, Nat.le_refl _⟩ (by
    have e : cuS (st, wt, br, dg, wu, fl) p c = ((st, wt, br, dg, wu, 10 * p + 3), 0) := (by unfold cuS; dsimp only; (repeat (first | (rw [if_pos (by omega)]) | (rw [if_neg (by omega)]))); try rfl)
    rw [e]
    exact ⟨_, rfl, rfl, ⟨hI.1, hI.2.1, hI.2.2.1, hI.2.2.2.1, hI.2.2.2.2.1, hI.2.2.2.2.2.1, rfl, hI.2.2.2.2.2.2.2.1, hI.2.2.2.2.2.2.2.2⟩, (by repeat (first | exact Fr.rf | assumption | (refine fr_I ?_ (by decide)) | (refine fr_J ?_ (by decide)) | (refine fr_C ?_ (by decide))))⟩)
  by_cases k2_3 : c = 45
  · refine e_lookup (pc' := 105) (off := 97) dX5_readUnit_8 ⟨by omega, by omega⟩ (by decide) (by rw [k2_3]; rfl) (by decide) ?_
    refine e_aload_n (pc' := 106) dX5_readUnit_105 rfl rfl ?_
    refine e_bipush (pc' := 108) (z := 126) dX5_readUnit_106 rfl (by decide) ?_
    refine e_cv1v (pc' := 111) dX5_readUnit_108 rfl k_5_68 h_35 rfl (Nat.le_of_ble_eq_true rfl) rfl rfl ⟨rfl, rfl⟩ ⟨Nat.zero_le _, Nat.zero_le _⟩ (s_hold_r8 n st wt br dg wu fl hI hk 126) ?_
    rintro τ2 ⟨hI2, hF2⟩
    refine e_iconst (pc' := 112) dX5_readUnit_111 rfl ?_
    exact e_zret dX5_readUnit_112 rfl (by decide) ⟨rfl, Nat.le_refl _⟩ (by
    have e : cuS (st, wt, br, dg, wu, fl) p c = ((st, adL 126 wt, br, dg, wu, fl), 1) := (by unfold cuS; dsimp only; (repeat (first | (rw [if_pos (by omega)]) | (rw [if_neg (by omega)]))); try rfl)
    rw [e]
    exact ⟨_, rfl, rfl, hI2, hF2⟩)
  by_cases k2_4 : c = 108
  · refine e_lookup (pc' := 84) (off := 76) dX5_readUnit_8 ⟨by omega, by omega⟩ (by decide) (by rw [k2_4]; rfl) (by decide) ?_
    refine e_aload_n (pc' := 85) dX5_readUnit_84 rfl rfl ?_
    refine e_iload_n (pc' := 86) dX5_readUnit_85 rfl rfl ?_
    refine e_ineg (pc' := 87) dX5_readUnit_86 rfl ?_
    refine e_cv1v (pc' := 90) dX5_readUnit_87 rfl k_5_64 h_8 rfl (Nat.le_of_ble_eq_true rfl) rfl rfl ⟨rfl, rfl⟩ ⟨Nat.zero_le _, Nat.zero_le _⟩ (s_addStep_8 n st wt br dg wu fl hI hk (-c)) ?_
    rintro τ2 ⟨hI2, hF2⟩
    refine e_aload_n (pc' := 91) dX5_readUnit_90 rfl rfl ?_
    refine e_iconst (pc' := 92) dX5_readUnit_91 rfl ?_
    refine e_putI (pc' := 95) dX5_readUnit_92 rfl f_5_25 h_35 rfl rfl rfl ?_
    refine e_iconst (pc' := 96) dX5_readUnit_95 rfl ?_
    exact e_zret dX5_readUnit_96 rfl (by decide) ⟨rfl, Nat.le_refl _⟩ (by
    have e : cuS (st, wt, br, dg, wu, fl) p c = ((adL (-c) st, wt, br, dg, 0, fl), 1) := (by unfold cuS; dsimp only; (repeat (first | (rw [if_pos (by omega)]) | (rw [if_neg (by omega)]))); try rfl)
    rw [e]
    exact ⟨_, rfl, rfl, ⟨hI2.1, hI2.2.1, hI2.2.2.1, rfl, hI2.2.2.2.2.1, hI2.2.2.2.2.2.1, hI2.2.2.2.2.2.2.1, hI2.2.2.2.2.2.2.2.1, hI2.2.2.2.2.2.2.2.2⟩, (fr_I hF2 (by decide))⟩)
  by_cases k2_5 : c = 109
  · refine e_lookup (pc' := 84) (off := 76) dX5_readUnit_8 ⟨by omega, by omega⟩ (by decide) (by rw [k2_5]; rfl) (by decide) ?_
    refine e_aload_n (pc' := 85) dX5_readUnit_84 rfl rfl ?_
    refine e_iload_n (pc' := 86) dX5_readUnit_85 rfl rfl ?_
    refine e_ineg (pc' := 87) dX5_readUnit_86 rfl ?_
    refine e_cv1v (pc' := 90) dX5_readUnit_87 rfl k_5_64 h_8 rfl (Nat.le_of_ble_eq_true rfl) rfl rfl ⟨rfl, rfl⟩ ⟨Nat.zero_le _, Nat.zero_le _⟩ (s_addStep_8 n st wt br dg wu fl hI hk (-c)) ?_
    rintro τ2 ⟨hI2, hF2⟩
    refine e_aload_n (pc' := 91) dX5_readUnit_90 rfl rfl ?_
    refine e_iconst (pc' := 92) dX5_readUnit_91 rfl ?_
    refine e_putI (pc' := 95) dX5_readUnit_92 rfl f_5_25 h_35 rfl rfl rfl ?_
    refine e_iconst (pc' := 96) dX5_readUnit_95 rfl ?_
    exact e_zret dX5_readUnit_96 rfl (by decide) ⟨rfl, Nat.le_refl _⟩ (by
    have e : cuS (st, wt, br, dg, wu, fl) p c = ((adL (-c) st, wt, br, dg, 0, fl), 1) := (by unfold cuS; dsimp only; (repeat (first | (rw [if_pos (by omega)]) | (rw [if_neg (by omega)]))); try rfl)
    rw [e]
    exact ⟨_, rfl, rfl, ⟨hI2.1, hI2.2.1, hI2.2.2.1, rfl, hI2.2.2.2.2.1, hI2.2.2.2.2.2.1, hI2.2.2.2.2.2.2.1, hI2.2.2.2.2.2.2.2.1, hI2.2.2.2.2.2.2.2.2⟩, (fr_I hF2 (by decide))⟩)
  by_cases k2_6 : c = 110
  · refine e_lookup (pc' := 84) (off := 76) dX5_readUnit_8 ⟨by omega, by omega⟩ (by decide) (by rw [k2_6]; rfl) (by decide) ?_
    refine e_aload_n (pc' := 85) dX5_readUnit_84 rfl rfl ?_
    refine e_iload_n (pc' := 86) dX5_readUnit_85 rfl rfl ?_
    refine e_ineg (pc' := 87) dX5_readUnit_86 rfl ?_
    refine e_cv1v (pc' := 90) dX5_readUnit_87 rfl k_5_64 h_8 rfl (Nat.le_of_ble_eq_true rfl) rfl rfl ⟨rfl, rfl⟩ ⟨Nat.zero_le _, Nat.zero_le _⟩ (s_addStep_8 n st wt br dg wu fl hI hk (-c)) ?_
    rintro τ2 ⟨hI2, hF2⟩
    refine e_aload_n (pc' := 91) dX5_readUnit_90 rfl rfl ?_
    refine e_iconst (pc' := 92) dX5_readUnit_91 rfl ?_
    refine e_putI (pc' := 95) dX5_readUnit_92 rfl f_5_25 h_35 rfl rfl rfl ?_
    refine e_iconst (pc' := 96) dX5_readUnit_95 rfl ?_
    exact e_zret dX5_readUnit_96 rfl (by decide) ⟨rfl, Nat.le_refl _⟩ (by
    have e : cuS (st, wt, br, dg, wu, fl) p c = ((adL (-c) st, wt, br, dg, 0, fl), 1) := (by unfold cuS; dsimp only; (repeat (first | (rw [if_pos (by omega)]) | (rw [if_neg (by omega)]))); try rfl)
    rw [e]
    exact ⟨_, rfl, rfl, ⟨hI2.1, hI2.2.1, hI2.2.2.1, rfl, hI2.2.2.2.2.1, hI2.2.2.2.2.2.1, hI2.2.2.2.2.2.2.1, hI2.2.2.2.2.2.2.2.1, hI2.2.2.2.2.2.2.2.2⟩, (fr_I hF2 (by decide))⟩)
  by_cases k2_7 : c = 114
  · refine e_lookup (pc' := 84) (off := 76) dX5_readUnit_8 ⟨by omega, by omega⟩ (by decide) (by rw [k2_7]; rfl) (by decide) ?_
    refine e_aload_n (pc' := 85) dX5_readUnit_84 rfl rfl ?_
    refine e_iload_n (pc' := 86) dX5_readUnit_85 rfl rfl ?_
    refine e_ineg (pc' := 87) dX5_readUnit_86 rfl ?_
    refine e_cv1v (pc' := 90) dX5_readUnit_87 rfl k_5_64 h_8 rfl (Nat.le_of_ble_eq_true rfl) rfl rfl ⟨rfl, rfl⟩ ⟨Nat.zero_le _, Nat.zero_le _⟩ (s_addStep_8 n st wt br dg wu fl hI hk (-c)) ?_
    rintro τ2 ⟨hI2, hF2⟩
    refine e_aload_n (pc' := 91) dX5_readUnit_90 rfl rfl ?_
    refine e_iconst (pc' := 92) dX5_readUnit_91 rfl ?_
    refine e_putI (pc' := 95) dX5_readUnit_92 rfl f_5_25 h_35 rfl rfl rfl ?_
    refine e_iconst (pc' := 96) dX5_readUnit_95 rfl ?_
    exact e_zret dX5_readUnit_96 rfl (by decide) ⟨rfl, Nat.le_refl _⟩ (by
    have e : cuS (st, wt, br, dg, wu, fl) p c = ((adL (-c) st, wt, br, dg, 0, fl), 1) := (by unfold cuS; dsimp only; (repeat (first | (rw [if_pos (by omega)]) | (rw [if_neg (by omega)]))); try rfl)
    rw [e]
    exact ⟨_, rfl, rfl, ⟨hI2.1, hI2.2.1, hI2.2.2.1, rfl, hI2.2.2.2.2.1, hI2.2.2.2.2.2.1, hI2.2.2.2.2.2.2.1, hI2.2.2.2.2.2.2.2.1, hI2.2.2.2.2.2.2.2.2⟩, (fr_I hF2 (by decide))⟩)
  by_cases k2_8 : c = 115
  · refine e_lookup (pc' := 84) (off := 76) dX5_readUnit_8 ⟨by omega, by omega⟩ (by decide) (by rw [k2_8]; rfl) (by decide) ?_
    refine e_aload_n (pc' := 85) dX5_readUnit_84 rfl rfl ?_
    refine e_iload_n (pc' := 86) dX5_readUnit_85 rfl rfl ?_
    refine e_ineg (pc' := 87) dX5_readUnit_86 rfl ?_
    refine e_cv1v (pc' := 90) dX5_readUnit_87 rfl k_5_64 h_8 rfl (Nat.le_of_ble_eq_true rfl) rfl rfl ⟨rfl, rfl⟩ ⟨Nat.zero_le _, Nat.zero_le _⟩ (s_addStep_8 n st wt br dg wu fl hI hk (-c)) ?_
    rintro τ2 ⟨hI2, hF2⟩
    refine e_aload_n (pc' := 91) dX5_readUnit_90 rfl rfl ?_
    refine e_iconst (pc' := 92) dX5_readUnit_91 rfl ?_
    refine e_putI (pc' := 95) dX5_readUnit_92 rfl f_5_25 h_35 rfl rfl rfl ?_
    refine e_iconst (pc' := 96) dX5_readUnit_95 rfl ?_
    exact e_zret dX5_readUnit_96 rfl (by decide) ⟨rfl, Nat.le_refl _⟩ (by
    have e : cuS (st, wt, br, dg, wu, fl) p c = ((adL (-c) st, wt, br, dg, 0, fl), 1) := (by unfold cuS; dsimp only; (repeat (first | (rw [if_pos (by omega)]) | (rw [if_neg (by omega)]))); try rfl)
    rw [e]
    exact ⟨_, rfl, rfl, ⟨hI2.1, hI2.2.1, hI2.2.2.1, rfl, hI2.2.2.2.2.1, hI2.2.2.2.2.2.1, hI2.2.2.2.2.2.2.1, hI2.2.2.2.2.2.2.2.1, hI2.2.2.2.2.2.2.2.2⟩, (fr_I hF2 (by decide))⟩)
  refine e_lookup (pc' := 152) (off := 144) dX5_readUnit_8 ⟨by omega, by omega⟩ (by decide) (lk_none _ _ _ (by simp only [List.mem_cons, List.not_mem_nil, or_false, forall_eq_or_imp, forall_eq, ne_eq]; omega)) (by decide) ?_
  refine e_iconst (pc' := 153) dX5_readUnit_152 rfl ?_
  exact e_zret dX5_readUnit_153 rfl (by decide) ⟨rfl, Nat.le_refl _⟩ (by
    have e : cuS (st, wt, br, dg, wu, fl) p c = ((st, wt, br, dg, wu, fl), 0) := (by unfold cuS; dsimp only; (repeat (first | (rw [if_pos (by omega)]) | (rw [if_neg (by omega)]))); try rfl)
    rw [e]
    exact ⟨_, rfl, rfl, hI, Fr.rf⟩)

set_option maxHeartbeats 4000000 in
set_option maxRecDepth 100000 in
theorem s_readBehindUnit_8 {X : AX} {d : Nat} {σ : SG} (n : Int) (st wt : List Int) (br dg wu fl : Int) (hI : RsI σ 8 n (st, wt, br, dg, wu, fl)) (hk : rsOK (st, wt, br, dg, wu, fl)) (c : Int) (hcc : chr7 c) : Ev X 0 0 (d + 3) mX5_readBehindUnit 0 [some (rv 35), some (rv 8), some (iv c), none] [] σ (QI (fun v σ' => v = (buS (st, wt, br, dg, wu, fl) c).2 ∧ RsI σ' 8 n (buS (st, wt, br, dg, wu, fl) c).1 ∧ Fr [35, 36, 8, 10] σ σ')) := by
  obtain ⟨hk1, hk2, hk3, hk4, hk5, hk6, hk7⟩ := id hk
  simp only at hk1 hk2 hk3 hk4 hk5 hk6 hk7
  obtain ⟨hc1, hc2⟩ := id hcc
  refine e_iload_n (pc' := 1) dX5_readBehindUnit_0 rfl rfl ?_
  refine e_bipush (pc' := 3) (z := 41) dX5_readBehindUnit_1 rfl (by decide) ?_
  refine e_icmpI (pc' := 6) (t := 12) dX5_readBehindUnit_3 (by decide) rfl ⟨by omega, by omega⟩ ⟨by omega, by omega⟩ (fun (c2_1 : (c : Int) ≠ 41) => ?_) (fun (c2_1 : ¬ ((c : Int) ≠ 41)) => ?_)
  · refine e_iload_n (pc' := 13) dX5_readBehindUnit_12 rfl rfl ?_
    refine e_cs1i (pc' := 16) dX5_readBehindUnit_13 rfl pn_5_75 k_5_75 (Nat.le_of_ble_eq_true rfl) rfl rfl ⟨rfl, rfl⟩ ⟨Nat.zero_le _, Nat.zero_le _⟩ (s_rankOf c ⟨by omega, by omega⟩) ?_
    intro r σ' hr; rw [hr.1, hr.2]; clear hr
    have hrk := rkS_rg c
    refine e_istore_n (pc' := 17) (L' := [some (rv 35), some (rv 8), some (iv c), some (iv (rkS c))]) dX5_readBehindUnit_16 rfl (by decide) rfl ?_
    refine e_iload_n (pc' := 18) dX5_readBehindUnit_17 rfl rfl ?_
    refine e_ifI (pc' := 21) (t := 27) dX5_readBehindUnit_18 (by decide) rfl ⟨by omega, by omega⟩ (fun (c4_2 : ((rkS c) : Int) = 0) => ?_) (fun (c4_2 : ¬ (((rkS c) : Int) = 0)) => ?_)
    · refine e_iconst (pc' := 28) dX5_readBehindUnit_27 rfl ?_
      exact e_zret dX5_readBehindUnit_28 rfl (by decide) ⟨rfl, Nat.le_refl _⟩ (by
    have e : buS (st, wt, br, dg, wu, fl) c = ((st, wt, br, dg, wu, fl), 0) := (by unfold buS; (repeat (first | (rw [if_pos (by omega)]) | (rw [if_neg (by omega)]))))
    rw [e]
    exact ⟨_, rfl, rfl, hI, Fr.rf⟩)
    · refine e_iload_n (pc' := 22) dX5_readBehindUnit_21 rfl rfl ?_
      refine e_bipush (pc' := 24) (z := 6) dX5_readBehindUnit_22 rfl (by decide) ?_
      refine e_icmpI (pc' := 27) (t := 29) dX5_readBehindUnit_24 (by decide) rfl ⟨by omega, by omega⟩ ⟨by omega, by omega⟩ (fun (c6_3 : ((rkS c) : Int) ≠ 6) => ?_) (fun (c6_3 : ¬ (((rkS c) : Int) ≠ 6)) => ?_)
      · refine e_aload_n (pc' := 30) dX5_readBehindUnit_29 rfl rfl ?_
        refine e_aload_n (pc' := 31) dX5_readBehindUnit_30 rfl rfl ?_
        refine e_iload_n (pc' := 32) dX5_readBehindUnit_31 rfl rfl ?_
        refine e_iconst (pc' := 33) dX5_readBehindUnit_32 rfl ?_
        refine e_icmpI (pc' := 36) (t := 42) dX5_readBehindUnit_33 (by decide) rfl ⟨by omega, by omega⟩ ⟨by omega, by omega⟩ (fun (c8_4 : ((rkS c) : Int) ≠ 3) => ?_) (fun (c8_4 : ¬ (((rkS c) : Int) ≠ 3)) => ?_)
        · refine e_iload_n (pc' := 43) dX5_readBehindUnit_42 rfl rfl ?_
          refine e_cv2v (pc' := 46) dX5_readBehindUnit_43 rfl k_5_44 h_35 rfl (Nat.le_of_ble_eq_true rfl) rfl rfl ⟨rfl, rfl⟩ ⟨Nat.zero_le _, Nat.zero_le _⟩ (s_release_8 n br dg wu fl (rkS c) ⟨by omega, by omega⟩ wt st _ hI hk) ?_
          rintro τ2 ⟨hI2, hF2⟩
          have hro := rlS_ok (rkS c) wt st hk1 hk2 hk7
          have hk2' : rsOK ((rlS (rkS c) wt st).2, (rlS (rkS c) wt st).1, br, dg, wu, fl) := ⟨hro.1, hro.2.1, hk3, hk4, hk5, hk6, hro.2.2⟩
          refine e_iload_n (pc' := 47) dX5_readBehindUnit_46 rfl rfl ?_
          refine e_iconst (pc' := 48) dX5_readBehindUnit_47 rfl ?_
          refine e_icmpI (pc' := 51) (t := 61) dX5_readBehindUnit_48 (by decide) rfl ⟨by omega, by omega⟩ ⟨by omega, by omega⟩ (fun (c10_5 : ((rkS c) : Int) ≠ 3) => ?_) (fun (c10_5 : ¬ (((rkS c) : Int) ≠ 3)) => ?_)
          · refine e_aload_n (pc' := 62) dX5_readBehindUnit_61 rfl rfl ?_
            refine e_iload_n (pc' := 63) dX5_readBehindUnit_62 rfl rfl ?_
            refine e_cv1v (pc' := 66) dX5_readBehindUnit_63 rfl k_5_68 h_35 rfl (Nat.le_of_ble_eq_true rfl) rfl rfl ⟨rfl, rfl⟩ ⟨Nat.zero_le _, Nat.zero_le _⟩ (s_hold_r8 n (rlS (rkS c) wt st).2 (rlS (rkS c) wt st).1 br dg wu fl hI2 hk2' c) ?_
            rintro τ3 ⟨hI3, hF3⟩
            refine e_aload_n (pc' := 67) dX5_readBehindUnit_66 rfl rfl ?_
            refine e_iconst (pc' := 68) dX5_readBehindUnit_67 rfl ?_
            refine e_putI (pc' := 71) dX5_readBehindUnit_68 rfl f_5_25 h_35 rfl rfl rfl ?_
            refine e_iconst (pc' := 72) dX5_readBehindUnit_71 rfl ?_
            exact e_zret dX5_readBehindUnit_72 rfl (by decide) ⟨rfl, Nat.le_refl _⟩ (by first | (exfalso; omega) | (have ek : krS c = (rkS c) := (by unfold krS; split <;> omega); have e : buS (st, wt, br, dg, wu, fl) c = (((rlS (rkS c) wt st).2, adL c (rlS (rkS c) wt st).1, br, dg, 1, fl), 1) := (by unfold buS; dsimp only; rw [ek]; (repeat (first | (rw [if_pos (by omega)]) | (rw [if_neg (by omega)]))); try rfl); rw [e]; exact ⟨_, rfl, rfl, ⟨hI3.1, hI3.2.1, hI3.2.2.1, rfl, hI3.2.2.2.2.1, hI3.2.2.2.2.2.1, hI3.2.2.2.2.2.2.1, hI3.2.2.2.2.2.2.2.1, hI3.2.2.2.2.2.2.2.2⟩, (fr_I (hF2.tr hF3) (by decide))⟩))
          · refine e_aload_n (pc' := 52) dX5_readBehindUnit_51 rfl rfl ?_
            refine e_cv0i (pc' := 55) dX5_readBehindUnit_52 rfl k_5_79 h_35 rfl (Nat.le_of_ble_eq_true rfl) rfl rfl ⟨rfl, rfl⟩ ⟨Nat.zero_le _, Nat.zero_le _⟩ (s_lastRank_8 n (rlS (rkS c) wt st).2 (rlS (rkS c) wt st).1 br dg wu fl hI2 hk2') ?_
            intro v3 σ' hr; rw [hr.1, hr.2]; clear hr
            have hlr : 0 ≤ lrS (rlS (rkS c) wt st).1 ∧ lrS (rlS (rkS c) wt st).1 ≤ 6 := lrS_rg _
            refine e_iconst (pc' := 56) dX5_readBehindUnit_55 rfl ?_
            refine e_icmpI (pc' := 59) (t := 61) dX5_readBehindUnit_56 (by decide) rfl ⟨by omega, by omega⟩ ⟨by omega, by omega⟩ (fun (c12_6 : ((lrS (rlS (rkS c) wt st).1) : Int) ≠ 3) => ?_) (fun (c12_6 : ¬ (((lrS (rlS (rkS c) wt st).1) : Int) ≠ 3)) => ?_)
            · refine e_aload_n (pc' := 62) dX5_readBehindUnit_61 rfl rfl ?_
              refine e_iload_n (pc' := 63) dX5_readBehindUnit_62 rfl rfl ?_
              refine e_cv1v (pc' := 66) dX5_readBehindUnit_63 rfl k_5_68 h_35 rfl (Nat.le_of_ble_eq_true rfl) rfl rfl ⟨rfl, rfl⟩ ⟨Nat.zero_le _, Nat.zero_le _⟩ (s_hold_r8 n (rlS (rkS c) wt st).2 (rlS (rkS c) wt st).1 br dg wu fl hI2 hk2' c) ?_
              rintro τ3 ⟨hI3, hF3⟩
              refine e_aload_n (pc' := 67) dX5_readBehindUnit_66 rfl rfl ?_
              refine e_iconst (pc' := 68) dX5_readBehindUnit_67 rfl ?_
              refine e_putI (pc' := 71) dX5_readBehindUnit_68 rfl f_5_25 h_35 rfl rfl rfl ?_
              refine e_iconst (pc' := 72) dX5_readBehindUnit_71 rfl ?_
              exact e_zret dX5_readBehindUnit_72 rfl (by decide) ⟨rfl, Nat.le_refl _⟩ (by first | (exfalso; omega) | (have ek : krS c = (rkS c) := (by unfold krS; split <;> omega); have e : buS (st, wt, br, dg, wu, fl) c = (((rlS (rkS c) wt st).2, adL c (rlS (rkS c) wt st).1, br, dg, 1, fl), 1) := (by unfold buS; dsimp only; rw [ek]; (repeat (first | (rw [if_pos (by omega)]) | (rw [if_neg (by omega)]))); try rfl); rw [e]; exact ⟨_, rfl, rfl, ⟨hI3.1, hI3.2.1, hI3.2.2.1, rfl, hI3.2.2.2.2.1, hI3.2.2.2.2.2.1, hI3.2.2.2.2.2.2.1, hI3.2.2.2.2.2.2.2.1, hI3.2.2.2.2.2.2.2.2⟩, (fr_I (hF2.tr hF3) (by decide))⟩))
            · refine e_iconst (pc' := 60) dX5_readBehindUnit_59 rfl ?_
              exact e_zret dX5_readBehindUnit_60 rfl (by decide) ⟨rfl, Nat.le_refl _⟩ (by first | (exfalso; omega) | (have ek : krS c = (rkS c) := (by unfold krS; split <;> omega); have e : buS (st, wt, br, dg, wu, fl) c = (((rlS (rkS c) wt st).2, (rlS (rkS c) wt st).1, br, dg, wu, fl), 0) := (by unfold buS; dsimp only; rw [ek]; (repeat (first | (rw [if_pos (by omega)]) | (rw [if_neg (by omega)]))); try rfl); rw [e]; exact ⟨_, rfl, rfl, hI2, hF2⟩))
        · refine e_iload_n (pc' := 37) dX5_readBehindUnit_36 rfl rfl ?_
          refine e_iconst (pc' := 38) dX5_readBehindUnit_37 rfl ?_
          refine e_iadd (pc' := 39) dX5_readBehindUnit_38 rfl ?_
          refine e_goto (pc' := 43) dX5_readBehindUnit_39 (by decide) ?_
          refine e_cv2v (pc' := 46) dX5_readBehindUnit_43 rfl k_5_44 h_35 rfl (Nat.le_of_ble_eq_true rfl) rfl rfl ⟨rfl, rfl⟩ ⟨Nat.zero_le _, Nat.zero_le _⟩ (s_release_8 n br dg wu fl ((rkS c) + 1) ⟨by omega, by omega⟩ wt st _ hI hk) ?_
          rintro τ2 ⟨hI2, hF2⟩
          have hro := rlS_ok ((rkS c) + 1) wt st hk1 hk2 hk7
          have hk2' : rsOK ((rlS ((rkS c) + 1) wt st).2, (rlS ((rkS c) + 1) wt st).1, br, dg, wu, fl) := ⟨hro.1, hro.2.1, hk3, hk4, hk5, hk6, hro.2.2⟩
          refine e_iload_n (pc' := 47) dX5_readBehindUnit_46 rfl rfl ?_
          refine e_iconst (pc' := 48) dX5_readBehindUnit_47 rfl ?_
          refine e_icmpI (pc' := 51) (t := 61) dX5_readBehindUnit_48 (by decide) rfl ⟨by omega, by omega⟩ ⟨by omega, by omega⟩ (fun (c10_5 : ((rkS c) : Int) ≠ 3) => ?_) (fun (c10_5 : ¬ (((rkS c) : Int) ≠ 3)) => ?_)
          · refine e_aload_n (pc' := 62) dX5_readBehindUnit_61 rfl rfl ?_
            refine e_iload_n (pc' := 63) dX5_readBehindUnit_62 rfl rfl ?_
            refine e_cv1v (pc' := 66) dX5_readBehindUnit_63 rfl k_5_68 h_35 rfl (Nat.le_of_ble_eq_true rfl) rfl rfl ⟨rfl, rfl⟩ ⟨Nat.zero_le _, Nat.zero_le _⟩ (s_hold_r8 n (rlS ((rkS c) + 1) wt st).2 (rlS ((rkS c) + 1) wt st).1 br dg wu fl hI2 hk2' c) ?_
            rintro τ3 ⟨hI3, hF3⟩
            refine e_aload_n (pc' := 67) dX5_readBehindUnit_66 rfl rfl ?_
            refine e_iconst (pc' := 68) dX5_readBehindUnit_67 rfl ?_
            refine e_putI (pc' := 71) dX5_readBehindUnit_68 rfl f_5_25 h_35 rfl rfl rfl ?_
            refine e_iconst (pc' := 72) dX5_readBehindUnit_71 rfl ?_
            exact e_zret dX5_readBehindUnit_72 rfl (by decide) ⟨rfl, Nat.le_refl _⟩ (by first | (exfalso; omega) | (have ek : krS c = ((rkS c) + 1) := (by unfold krS; split <;> omega); have e : buS (st, wt, br, dg, wu, fl) c = (((rlS ((rkS c) + 1) wt st).2, adL c (rlS ((rkS c) + 1) wt st).1, br, dg, 1, fl), 1) := (by unfold buS; dsimp only; rw [ek]; (repeat (first | (rw [if_pos (by omega)]) | (rw [if_neg (by omega)]))); try rfl); rw [e]; exact ⟨_, rfl, rfl, ⟨hI3.1, hI3.2.1, hI3.2.2.1, rfl, hI3.2.2.2.2.1, hI3.2.2.2.2.2.1, hI3.2.2.2.2.2.2.1, hI3.2.2.2.2.2.2.2.1, hI3.2.2.2.2.2.2.2.2⟩, (fr_I (hF2.tr hF3) (by decide))⟩))
          · refine e_aload_n (pc' := 52) dX5_readBehindUnit_51 rfl rfl ?_
            refine e_cv0i (pc' := 55) dX5_readBehindUnit_52 rfl k_5_79 h_35 rfl (Nat.le_of_ble_eq_true rfl) rfl rfl ⟨rfl, rfl⟩ ⟨Nat.zero_le _, Nat.zero_le _⟩ (s_lastRank_8 n (rlS ((rkS c) + 1) wt st).2 (rlS ((rkS c) + 1) wt st).1 br dg wu fl hI2 hk2') ?_
            intro v3 σ' hr; rw [hr.1, hr.2]; clear hr
            have hlr : 0 ≤ lrS (rlS ((rkS c) + 1) wt st).1 ∧ lrS (rlS ((rkS c) + 1) wt st).1 ≤ 6 := lrS_rg _
            refine e_iconst (pc' := 56) dX5_readBehindUnit_55 rfl ?_
            refine e_icmpI (pc' := 59) (t := 61) dX5_readBehindUnit_56 (by decide) rfl ⟨by omega, by omega⟩ ⟨by omega, by omega⟩ (fun (c12_6 : ((lrS (rlS ((rkS c) + 1) wt st).1) : Int) ≠ 3) => ?_) (fun (c12_6 : ¬ (((lrS (rlS ((rkS c) + 1) wt st).1) : Int) ≠ 3)) => ?_)
            · refine e_aload_n (pc' := 62) dX5_readBehindUnit_61 rfl rfl ?_
              refine e_iload_n (pc' := 63) dX5_readBehindUnit_62 rfl rfl ?_
              refine e_cv1v (pc' := 66) dX5_readBehindUnit_63 rfl k_5_68 h_35 rfl (Nat.le_of_ble_eq_true rfl) rfl rfl ⟨rfl, rfl⟩ ⟨Nat.zero_le _, Nat.zero_le _⟩ (s_hold_r8 n (rlS ((rkS c) + 1) wt st).2 (rlS ((rkS c) + 1) wt st).1 br dg wu fl hI2 hk2' c) ?_
              rintro τ3 ⟨hI3, hF3⟩
              refine e_aload_n (pc' := 67) dX5_readBehindUnit_66 rfl rfl ?_
              refine e_iconst (pc' := 68) dX5_readBehindUnit_67 rfl ?_
              refine e_putI (pc' := 71) dX5_readBehindUnit_68 rfl f_5_25 h_35 rfl rfl rfl ?_
              refine e_iconst (pc' := 72) dX5_readBehindUnit_71 rfl ?_
              exact e_zret dX5_readBehindUnit_72 rfl (by decide) ⟨rfl, Nat.le_refl _⟩ (by first | (exfalso; omega) | (have ek : krS c = ((rkS c) + 1) := (by unfold krS; split <;> omega); have e : buS (st, wt, br, dg, wu, fl) c = (((rlS ((rkS c) + 1) wt st).2, adL c (rlS ((rkS c) + 1) wt st).1, br, dg, 1, fl), 1) := (by unfold buS; dsimp only; rw [ek]; (repeat (first | (rw [if_pos (by omega)]) | (rw [if_neg (by omega)]))); try rfl); rw [e]; exact ⟨_, rfl, rfl, ⟨hI3.1, hI3.2.1, hI3.2.2.1, rfl, hI3.2.2.2.2.1, hI3.2.2.2.2.2.1, hI3.2.2.2.2.2.2.1, hI3.2.2.2.2.2.2.2.1, hI3.2.2.2.2.2.2.2.2⟩, (fr_I (hF2.tr hF3) (by decide))⟩))
            · refine e_iconst (pc' := 60) dX5_readBehindUnit_59 rfl ?_
              exact e_zret dX5_readBehindUnit_60 rfl (by decide) ⟨rfl, Nat.le_refl _⟩ (by first | (exfalso; omega) | (have ek : krS c = ((rkS c) + 1) := (by unfold krS; split <;> omega); have e : buS (st, wt, br, dg, wu, fl) c = (((rlS ((rkS c) + 1) wt st).2, (rlS ((rkS c) + 1) wt st).1, br, dg, wu, fl), 0) := (by unfold buS; dsimp only; rw [ek]; (repeat (first | (rw [if_pos (by omega)]) | (rw [if_neg (by omega)]))); try rfl); rw [e]; exact ⟨_, rfl, rfl, hI2, hF2⟩))
      · refine e_iconst (pc' := 28) dX5_readBehindUnit_27 rfl ?_
        exact e_zret dX5_readBehindUnit_28 rfl (by decide) ⟨rfl, Nat.le_refl _⟩ (by
    have e : buS (st, wt, br, dg, wu, fl) c = ((st, wt, br, dg, wu, fl), 0) := (by unfold buS; (repeat (first | (rw [if_pos (by omega)]) | (rw [if_neg (by omega)]))))
    rw [e]
    exact ⟨_, rfl, rfl, hI, Fr.rf⟩)
  · refine e_aload_n (pc' := 7) dX5_readBehindUnit_6 rfl rfl ?_
    refine e_aload_n (pc' := 8) dX5_readBehindUnit_7 rfl rfl ?_
    refine e_cv1i (pc' := 11) dX5_readBehindUnit_8 rfl k_5_71 h_35 rfl (Nat.le_of_ble_eq_true rfl) rfl rfl ⟨rfl, rfl⟩ ⟨Nat.zero_le _, Nat.zero_le _⟩ (s_closeBracket_8 n st wt br dg wu fl hI hk) ?_
    rintro v2 τ2 ⟨hv2, hI2, hF2⟩
    exact e_zret dX5_readBehindUnit_11 rfl (by rw [hv2]; exact (cbS_ok hk).2) ⟨rfl, Nat.le_refl _⟩ (by
    have e : buS (st, wt, br, dg, wu, fl) c = cbS (st, wt, br, dg, wu, fl) := (by unfold buS; rw [if_pos (by omega)])
    rw [e]
    exact ⟨_, rfl, hv2, hI2, hF2⟩)

set_option maxHeartbeats 4000000 in
set_option maxRecDepth 100000 in
theorem s_readDigit_11 {X : AX} {d : Nat} {σ : SG} (n : Int) (st wt : List Int) (br dg wu fl : Int) (hI : RsI σ 11 n (st, wt, br, dg, wu, fl)) (hk : rsOK (st, wt, br, dg, wu, fl)) (p x : Int) (hp : 0 ≤ p ∧ p < 40) (hx : 0 ≤ x ∧ x ≤ 9) : Ev X 0 0 (d + 1) mX5_readDigit 0 [some (rv 35), some (rv 11), some (iv p), some (iv x), none] [] σ (QV (fun σ' => RsI σ' 11 n (dgS (st, wt, br, dg, wu, fl) p x) ∧ Fr [35, 36, 11, 13] σ σ')) := by
  obtain ⟨hk1, hk2, hk3, hk4, hk5, hk6, hk7⟩ := id hk
  simp only at hk1 hk2 hk3 hk4 hk5 hk6 hk7
  cases st with
  | nil =>
    have hl : (([] : List Int).length : Nat) = 0 := rfl
    refine e_aload_n (pc' := 1) dX5_readDigit_0 rfl rfl ?_
    refine e_getI (pc' := 4) (v := (([] : List Int).length : Int)) dX5_readDigit_1 rfl f_5_29 h_11 rfl hI.2.2.2.2.2.1 ?_
    refine e_iconst (pc' := 5) dX5_readDigit_4 rfl ?_
    refine e_isub (pc' := 6) dX5_readDigit_5 rfl ?_
    refine e_istore (pc' := 8) (L' := [some (rv 35), some (rv 11), some (iv p), some (iv x), some (iv ((([] : List Int).length : Int) - 1))]) dX5_readDigit_6 rfl (by decide) rfl ?_
    refine e_aload_n (pc' := 9) dX5_readDigit_8 rfl rfl ?_
    refine e_getI (pc' := 12) (v := dg) dX5_readDigit_9 rfl f_5_22 h_35 rfl hI.2.2.1 ?_
    refine e_bipush (pc' := 14) (z := 6) dX5_readDigit_12 rfl (by decide) ?_
    refine e_icmpI (pc' := 17) (t := 33) dX5_readDigit_14 (by decide) rfl ⟨by omega, by omega⟩ ⟨by omega, by omega⟩ (fun (c4_1 : (dg : Int) ≠ 6) => ?_) (fun (c4_1 : ¬ ((dg : Int) ≠ 6)) => ?_)
    · refine e_aload_n (pc' := 34) dX5_readDigit_33 rfl rfl ?_
      refine e_getI (pc' := 37) (v := dg) dX5_readDigit_34 rfl f_5_22 h_35 rfl hI.2.2.1 ?_
      refine e_ifI (pc' := 40) (t := 77) dX5_readDigit_37 (by decide) rfl ⟨by omega, by omega⟩ (fun (c6_2 : (dg : Int) ≤ 0) => ?_) (fun (c6_2 : ¬ ((dg : Int) ≤ 0)) => ?_)
      · refine e_aload_n (pc' := 78) dX5_readDigit_77 rfl rfl ?_
        refine e_getI (pc' := 81) (v := wu) dX5_readDigit_78 rfl f_5_25 h_35 rfl hI.2.2.2.1 ?_
        refine e_ifI (pc' := 84) (t := 102) dX5_readDigit_81 (by decide) rfl ⟨by omega, by omega⟩ (fun (c8_3 : (wu : Int) = 0) => ?_) (fun (c8_3 : ¬ ((wu : Int) = 0)) => ?_)
        · refine e_aload_n (pc' := 103) dX5_readDigit_102 rfl rfl ?_
          refine e_bipush (pc' := 105) (z := 10) dX5_readDigit_103 rfl (by decide) ?_
          refine e_iload_n (pc' := 106) dX5_readDigit_105 rfl rfl ?_
          refine e_imul (pc' := 107) dX5_readDigit_106 rfl ?_
          refine e_iconst (pc' := 108) dX5_readDigit_107 rfl ?_
          refine e_iadd (pc' := 109) dX5_readDigit_108 rfl ?_
          refine e_putI (pc' := 112) dX5_readDigit_109 rfl f_5_34 h_11 rfl rfl rfl ?_
          exact e_vret dX5_readDigit_112 rfl ⟨rfl, Nat.le_refl _⟩ ⟨rfl, by have e : dgS (([] : List Int), wt, br, dg, wu, fl) p x = (([] : List Int), wt, br, dg, wu, 10 * p + 1) := (by unfold dgS; dsimp only; (repeat (first | (rw [if_pos (by omega)]) | (rw [if_neg (by omega)]))); try rfl); rw [e]; exact ⟨hI.1, hI.2.1, hI.2.2.1, hI.2.2.2.1, hI.2.2.2.2.1, hI.2.2.2.2.2.1, rfl, hI.2.2.2.2.2.2.2.1, hI.2.2.2.2.2.2.2.2⟩, (by repeat (first | exact Fr.rf | assumption | (refine fr_I ?_ (by decide)) | (refine fr_J ?_ (by decide)) | (refine fr_C ?_ (by decide))))⟩
        · refine e_aload_n (pc' := 85) dX5_readDigit_84 rfl rfl ?_
          refine e_iload_n (pc' := 86) dX5_readDigit_85 rfl rfl ?_
          refine e_cv1v (pc' := 89) dX5_readDigit_86 rfl k_5_64 h_11 rfl (Nat.le_of_ble_eq_true rfl) rfl rfl ⟨rfl, rfl⟩ ⟨Nat.zero_le _, Nat.zero_le _⟩ (s_addStep_11 n ([] : List Int) wt br dg wu fl hI hk x) ?_
          rintro τ2 ⟨hI2, hF2⟩
          refine e_aload_n (pc' := 90) dX5_readDigit_89 rfl rfl ?_
          refine e_iconst (pc' := 91) dX5_readDigit_90 rfl ?_
          refine e_putI (pc' := 94) dX5_readDigit_91 rfl f_5_25 h_35 rfl rfl rfl ?_
          refine e_aload_n (pc' := 95) dX5_readDigit_94 rfl rfl ?_
          refine e_iconst (pc' := 96) dX5_readDigit_95 rfl ?_
          refine e_putI (pc' := 99) dX5_readDigit_96 rfl f_5_22 h_35 rfl rfl rfl ?_
          refine e_goto (pc' := 112) dX5_readDigit_99 (by decide) ?_
          exact e_vret dX5_readDigit_112 rfl ⟨rfl, Nat.le_refl _⟩ ⟨rfl, by have e : dgS (([] : List Int), wt, br, dg, wu, fl) p x = (adL x ([] : List Int), wt, br, 1, 0, fl) := (by unfold dgS; dsimp only; (repeat (first | (rw [if_pos (by omega)]) | (rw [if_neg (by omega)]))); try rfl); rw [e]; exact ⟨hI2.1, hI2.2.1, rfl, rfl, hI2.2.2.2.2.1, hI2.2.2.2.2.2.1, hI2.2.2.2.2.2.2.1, hI2.2.2.2.2.2.2.2.1, hI2.2.2.2.2.2.2.2.2⟩, (fr_I (fr_I hF2 (by decide)) (by decide))⟩
      · refine e_iload (pc' := 42) dX5_readDigit_40 rfl rfl ?_
        refine e_ifI (pc' := 45) (t := 77) dX5_readDigit_42 (by decide) rfl ⟨by omega, by omega⟩ (fun (c8_3 : (((([] : List Int).length : Int) - 1) : Int) < 0) => ?_) (fun (c8_3 : ¬ ((((([] : List Int).length : Int) - 1) : Int) < 0)) => absurd (show (((([] : List Int).length : Nat) : Int) - 1 : Int) < 0 by decide) c8_3)
        refine e_aload_n (pc' := 78) dX5_readDigit_77 rfl rfl ?_
        refine e_getI (pc' := 81) (v := wu) dX5_readDigit_78 rfl f_5_25 h_35 rfl hI.2.2.2.1 ?_
        refine e_ifI (pc' := 84) (t := 102) dX5_readDigit_81 (by decide) rfl ⟨by omega, by omega⟩ (fun (c8_4 : (wu : Int) = 0) => ?_) (fun (c8_4 : ¬ ((wu : Int) = 0)) => ?_)
        · refine e_aload_n (pc' := 103) dX5_readDigit_102 rfl rfl ?_
          refine e_bipush (pc' := 105) (z := 10) dX5_readDigit_103 rfl (by decide) ?_
          refine e_iload_n (pc' := 106) dX5_readDigit_105 rfl rfl ?_
          refine e_imul (pc' := 107) dX5_readDigit_106 rfl ?_
          refine e_iconst (pc' := 108) dX5_readDigit_107 rfl ?_
          refine e_iadd (pc' := 109) dX5_readDigit_108 rfl ?_
          refine e_putI (pc' := 112) dX5_readDigit_109 rfl f_5_34 h_11 rfl rfl rfl ?_
          exact e_vret dX5_readDigit_112 rfl ⟨rfl, Nat.le_refl _⟩ ⟨rfl, by have e : dgS (([] : List Int), wt, br, dg, wu, fl) p x = (([] : List Int), wt, br, dg, wu, 10 * p + 1) := (by unfold dgS; dsimp only; (repeat (first | (rw [if_pos (by omega)]) | (rw [if_neg (by omega)]))); try rfl); rw [e]; exact ⟨hI.1, hI.2.1, hI.2.2.1, hI.2.2.2.1, hI.2.2.2.2.1, hI.2.2.2.2.2.1, rfl, hI.2.2.2.2.2.2.2.1, hI.2.2.2.2.2.2.2.2⟩, (by repeat (first | exact Fr.rf | assumption | (refine fr_I ?_ (by decide)) | (refine fr_J ?_ (by decide)) | (refine fr_C ?_ (by decide))))⟩
        · refine e_aload_n (pc' := 85) dX5_readDigit_84 rfl rfl ?_
          refine e_iload_n (pc' := 86) dX5_readDigit_85 rfl rfl ?_
          refine e_cv1v (pc' := 89) dX5_readDigit_86 rfl k_5_64 h_11 rfl (Nat.le_of_ble_eq_true rfl) rfl rfl ⟨rfl, rfl⟩ ⟨Nat.zero_le _, Nat.zero_le _⟩ (s_addStep_11 n ([] : List Int) wt br dg wu fl hI hk x) ?_
          rintro τ2 ⟨hI2, hF2⟩
          refine e_aload_n (pc' := 90) dX5_readDigit_89 rfl rfl ?_
          refine e_iconst (pc' := 91) dX5_readDigit_90 rfl ?_
          refine e_putI (pc' := 94) dX5_readDigit_91 rfl f_5_25 h_35 rfl rfl rfl ?_
          refine e_aload_n (pc' := 95) dX5_readDigit_94 rfl rfl ?_
          refine e_iconst (pc' := 96) dX5_readDigit_95 rfl ?_
          refine e_putI (pc' := 99) dX5_readDigit_96 rfl f_5_22 h_35 rfl rfl rfl ?_
          refine e_goto (pc' := 112) dX5_readDigit_99 (by decide) ?_
          exact e_vret dX5_readDigit_112 rfl ⟨rfl, Nat.le_refl _⟩ ⟨rfl, by have e : dgS (([] : List Int), wt, br, dg, wu, fl) p x = (adL x ([] : List Int), wt, br, 1, 0, fl) := (by unfold dgS; dsimp only; (repeat (first | (rw [if_pos (by omega)]) | (rw [if_neg (by omega)]))); try rfl); rw [e]; exact ⟨hI2.1, hI2.2.1, rfl, rfl, hI2.2.2.2.2.1, hI2.2.2.2.2.2.1, hI2.2.2.2.2.2.2.1, hI2.2.2.2.2.2.2.2.1, hI2.2.2.2.2.2.2.2.2⟩, (fr_I (fr_I hF2 (by decide)) (by decide))⟩
    · refine e_aload_n (pc' := 18) dX5_readDigit_17 rfl rfl ?_
      refine e_bipush (pc' := 20) (z := 10) dX5_readDigit_18 rfl (by decide) ?_
      refine e_iload_n (pc' := 21) dX5_readDigit_20 rfl rfl ?_
      refine e_bipush (pc' := 23) (z := 6) dX5_readDigit_21 rfl (by decide) ?_
      refine e_isub (pc' := 24) dX5_readDigit_23 rfl ?_
      refine e_imul (pc' := 25) dX5_readDigit_24 rfl ?_
      refine e_iconst (pc' := 26) dX5_readDigit_25 rfl ?_
      refine e_iadd (pc' := 27) dX5_readDigit_26 rfl ?_
      refine e_putI (pc' := 30) dX5_readDigit_27 rfl f_5_34 h_11 rfl rfl rfl ?_
      refine e_goto (pc' := 112) dX5_readDigit_30 (by decide) ?_
      exact e_vret dX5_readDigit_112 rfl ⟨rfl, Nat.le_refl _⟩ ⟨rfl, by have e : dgS (([] : List Int), wt, br, dg, wu, fl) p x = (([] : List Int), wt, br, dg, wu, 10 * (p - 6) + 2) := (by unfold dgS; dsimp only; (repeat (first | (rw [if_pos (by omega)]) | (rw [if_neg (by omega)]))); try rfl); rw [e]; exact ⟨hI.1, hI.2.1, hI.2.2.1, hI.2.2.2.1, hI.2.2.2.2.1, hI.2.2.2.2.2.1, rfl, hI.2.2.2.2.2.2.2.1, hI.2.2.2.2.2.2.2.2⟩, (by repeat (first | exact Fr.rf | assumption | (refine fr_I ?_ (by decide)) | (refine fr_J ?_ (by decide)) | (refine fr_C ?_ (by decide))))⟩
  | cons a l =>
    have hl : (a :: l).length = l.length + 1 := rfl
    have ha0 : σ.1 13 (((a :: l).length : Int) - 1) = a := by
      rw [show (((a :: l).length : Int) - 1) = (l.length : Int) by omega]
      exact hI.2.2.2.2.2.2.2.1.1
    refine e_aload_n (pc' := 1) dX5_readDigit_0 rfl rfl ?_
    refine e_getI (pc' := 4) (v := ((a :: l).length : Int)) dX5_readDigit_1 rfl f_5_29 h_11 rfl hI.2.2.2.2.2.1 ?_
    refine e_iconst (pc' := 5) dX5_readDigit_4 rfl ?_
    refine e_isub (pc' := 6) dX5_readDigit_5 rfl ?_
    refine e_istore (pc' := 8) (L' := [some (rv 35), some (rv 11), some (iv p), some (iv x), some (iv (((a :: l).length : Int) - 1))]) dX5_readDigit_6 rfl (by decide) rfl ?_
    refine e_aload_n (pc' := 9) dX5_readDigit_8 rfl rfl ?_
    refine e_getI (pc' := 12) (v := dg) dX5_readDigit_9 rfl f_5_22 h_35 rfl hI.2.2.1 ?_
    refine e_bipush (pc' := 14) (z := 6) dX5_readDigit_12 rfl (by decide) ?_
    refine e_icmpI (pc' := 17) (t := 33) dX5_readDigit_14 (by decide) rfl ⟨by omega, by omega⟩ ⟨by omega, by omega⟩ (fun (c4_1 : (dg : Int) ≠ 6) => ?_) (fun (c4_1 : ¬ ((dg : Int) ≠ 6)) => ?_)
    · refine e_aload_n (pc' := 34) dX5_readDigit_33 rfl rfl ?_
      refine e_getI (pc' := 37) (v := dg) dX5_readDigit_34 rfl f_5_22 h_35 rfl hI.2.2.1 ?_
      refine e_ifI (pc' := 40) (t := 77) dX5_readDigit_37 (by decide) rfl ⟨by omega, by omega⟩ (fun (c6_2 : (dg : Int) ≤ 0) => ?_) (fun (c6_2 : ¬ ((dg : Int) ≤ 0)) => ?_)
      · refine e_aload_n (pc' := 78) dX5_readDigit_77 rfl rfl ?_
        refine e_getI (pc' := 81) (v := wu) dX5_readDigit_78 rfl f_5_25 h_35 rfl hI.2.2.2.1 ?_
        refine e_ifI (pc' := 84) (t := 102) dX5_readDigit_81 (by decide) rfl ⟨by omega, by omega⟩ (fun (c8_3 : (wu : Int) = 0) => ?_) (fun (c8_3 : ¬ ((wu : Int) = 0)) => ?_)
        · refine e_aload_n (pc' := 103) dX5_readDigit_102 rfl rfl ?_
          refine e_bipush (pc' := 105) (z := 10) dX5_readDigit_103 rfl (by decide) ?_
          refine e_iload_n (pc' := 106) dX5_readDigit_105 rfl rfl ?_
          refine e_imul (pc' := 107) dX5_readDigit_106 rfl ?_
          refine e_iconst (pc' := 108) dX5_readDigit_107 rfl ?_
          refine e_iadd (pc' := 109) dX5_readDigit_108 rfl ?_
          refine e_putI (pc' := 112) dX5_readDigit_109 rfl f_5_34 h_11 rfl rfl rfl ?_
          exact e_vret dX5_readDigit_112 rfl ⟨rfl, Nat.le_refl _⟩ ⟨rfl, by have e : dgS ((a :: l), wt, br, dg, wu, fl) p x = ((a :: l), wt, br, dg, wu, 10 * p + 1) := (by unfold dgS; dsimp only; (repeat (first | (rw [if_pos (by omega)]) | (rw [if_neg (by omega)]))); try rfl); rw [e]; exact ⟨hI.1, hI.2.1, hI.2.2.1, hI.2.2.2.1, hI.2.2.2.2.1, hI.2.2.2.2.2.1, rfl, hI.2.2.2.2.2.2.2.1, hI.2.2.2.2.2.2.2.2⟩, (by repeat (first | exact Fr.rf | assumption | (refine fr_I ?_ (by decide)) | (refine fr_J ?_ (by decide)) | (refine fr_C ?_ (by decide))))⟩
        · refine e_aload_n (pc' := 85) dX5_readDigit_84 rfl rfl ?_
          refine e_iload_n (pc' := 86) dX5_readDigit_85 rfl rfl ?_
          refine e_cv1v (pc' := 89) dX5_readDigit_86 rfl k_5_64 h_11 rfl (Nat.le_of_ble_eq_true rfl) rfl rfl ⟨rfl, rfl⟩ ⟨Nat.zero_le _, Nat.zero_le _⟩ (s_addStep_11 n (a :: l) wt br dg wu fl hI hk x) ?_
          rintro τ2 ⟨hI2, hF2⟩
          refine e_aload_n (pc' := 90) dX5_readDigit_89 rfl rfl ?_
          refine e_iconst (pc' := 91) dX5_readDigit_90 rfl ?_
          refine e_putI (pc' := 94) dX5_readDigit_91 rfl f_5_25 h_35 rfl rfl rfl ?_
          refine e_aload_n (pc' := 95) dX5_readDigit_94 rfl rfl ?_
          refine e_iconst (pc' := 96) dX5_readDigit_95 rfl ?_
          refine e_putI (pc' := 99) dX5_readDigit_96 rfl f_5_22 h_35 rfl rfl rfl ?_
          refine e_goto (pc' := 112) dX5_readDigit_99 (by decide) ?_
          exact e_vret dX5_readDigit_112 rfl ⟨rfl, Nat.le_refl _⟩ ⟨rfl, by have e : dgS ((a :: l), wt, br, dg, wu, fl) p x = (adL x (a :: l), wt, br, 1, 0, fl) := (by unfold dgS; dsimp only; (repeat (first | (rw [if_pos (by omega)]) | (rw [if_neg (by omega)]))); try rfl); rw [e]; exact ⟨hI2.1, hI2.2.1, rfl, rfl, hI2.2.2.2.2.1, hI2.2.2.2.2.2.1, hI2.2.2.2.2.2.2.1, hI2.2.2.2.2.2.2.2.1, hI2.2.2.2.2.2.2.2.2⟩, (fr_I (fr_I hF2 (by decide)) (by decide))⟩
      · refine e_iload (pc' := 42) dX5_readDigit_40 rfl rfl ?_
        refine e_ifI (pc' := 45) (t := 77) dX5_readDigit_42 (by decide) rfl ⟨by omega, by omega⟩ (fun (c8_3 : ((((a :: l).length : Int) - 1) : Int) < 0) => absurd c8_3 (show ¬ (((a :: l).length : Int) - 1 < 0) by omega)) (fun (c8_3 : ¬ (((((a :: l).length : Int) - 1) : Int) < 0)) => ?_)
        refine e_aload_n (pc' := 46) dX5_readDigit_45 rfl rfl ?_
        refine e_getR (pc' := 49) dX5_readDigit_46 rfl f_5_61 h_11 rfl ?_
        refine e_iload (pc' := 51) dX5_readDigit_49 rfl rfl ?_
        refine e_bipush (pc' := 53) (z := 10) dX5_readDigit_51 rfl (by decide) ?_
        refine e_aload_n (pc' := 54) dX5_readDigit_53 rfl rfl ?_
        refine e_getR (pc' := 57) dX5_readDigit_54 rfl f_5_61 h_11 rfl ?_
        refine e_iload (pc' := 59) dX5_readDigit_57 rfl rfl ?_
        refine e_iald (pc' := 60) (v := a) dX5_readDigit_59 rfl h_13 (by decide) (by omega) (by omega) ha0 ?_
        refine e_imul (pc' := 61) dX5_readDigit_60 rfl ?_
        refine e_iload_n (pc' := 62) dX5_readDigit_61 rfl rfl ?_
        refine e_iadd (pc' := 63) dX5_readDigit_62 rfl ?_
        refine e_iast (pc' := 64) dX5_readDigit_63 rfl h_13 (by decide) (by omega) (by omega) ?_
        refine e_aload_n (pc' := 65) dX5_readDigit_64 rfl rfl ?_
        refine e_dup (pc' := 66) dX5_readDigit_65 rfl rfl ?_
        refine e_getI (pc' := 69) (v := dg) dX5_readDigit_66 rfl f_5_22 h_35 rfl hI.2.2.1 ?_
        refine e_iconst (pc' := 70) dX5_readDigit_69 rfl ?_
        refine e_iadd (pc' := 71) dX5_readDigit_70 rfl ?_
        refine e_putI (pc' := 74) dX5_readDigit_71 rfl f_5_22 h_35 rfl rfl rfl ?_
        refine e_goto (pc' := 112) dX5_readDigit_74 (by decide) ?_
        exact e_vret dX5_readDigit_112 rfl ⟨rfl, Nat.le_refl _⟩ ⟨rfl, by have e : dgS ((a :: l), wt, br, dg, wu, fl) p x = ((10 * a + x) :: l, wt, br, dg + 1, wu, fl) := (by unfold dgS; dsimp only; (repeat (first | (rw [if_pos (by omega)]) | (rw [if_neg (by omega)]))); try rfl); rw [e]; exact ⟨hI.1, hI.2.1, rfl, hI.2.2.2.1, hI.2.2.2.2.1, (hI.2.2.2.2.2.1 : σ.1 11 3 = _), hI.2.2.2.2.2.2.1, ⟨if_pos ⟨rfl, by omega⟩, isLst_upI (σ := σ) (q := 13) (by omega) hI.2.2.2.2.2.2.2.1.2⟩, hI.2.2.2.2.2.2.2.2⟩, (by repeat (first | exact Fr.rf | assumption | (refine fr_I ?_ (by decide)) | (refine fr_J ?_ (by decide)) | (refine fr_C ?_ (by decide))))⟩
    · refine e_aload_n (pc' := 18) dX5_readDigit_17 rfl rfl ?_
      refine e_bipush (pc' := 20) (z := 10) dX5_readDigit_18 rfl (by decide) ?_
      refine e_iload_n (pc' := 21) dX5_readDigit_20 rfl rfl ?_
      refine e_bipush (pc' := 23) (z := 6) dX5_readDigit_21 rfl (by decide) ?_
      refine e_isub (pc' := 24) dX5_readDigit_23 rfl ?_
      refine e_imul (pc' := 25) dX5_readDigit_24 rfl ?_
      refine e_iconst (pc' := 26) dX5_readDigit_25 rfl ?_
      refine e_iadd (pc' := 27) dX5_readDigit_26 rfl ?_
      refine e_putI (pc' := 30) dX5_readDigit_27 rfl f_5_34 h_11 rfl rfl rfl ?_
      refine e_goto (pc' := 112) dX5_readDigit_30 (by decide) ?_
      exact e_vret dX5_readDigit_112 rfl ⟨rfl, Nat.le_refl _⟩ ⟨rfl, by have e : dgS ((a :: l), wt, br, dg, wu, fl) p x = ((a :: l), wt, br, dg, wu, 10 * (p - 6) + 2) := (by unfold dgS; dsimp only; (repeat (first | (rw [if_pos (by omega)]) | (rw [if_neg (by omega)]))); try rfl); rw [e]; exact ⟨hI.1, hI.2.1, hI.2.2.1, hI.2.2.2.1, hI.2.2.2.2.1, hI.2.2.2.2.2.1, rfl, hI.2.2.2.2.2.2.2.1, hI.2.2.2.2.2.2.2.2⟩, (by repeat (first | exact Fr.rf | assumption | (refine fr_I ?_ (by decide)) | (refine fr_J ?_ (by decide)) | (refine fr_C ?_ (by decide))))⟩

set_option maxHeartbeats 4000000 in
set_option maxRecDepth 100000 in
theorem s_closeBracket_11 {X : AX} {d : Nat} {σ : SG} (n : Int) (st wt : List Int) (br dg wu fl : Int) (hI : RsI σ 11 n (st, wt, br, dg, wu, fl)) (hk : rsOK (st, wt, br, dg, wu, fl)) : Ev X 0 0 (d + 2) mX5_closeBracket 0 [some (rv 35), some (rv 11)] [] σ (QI (fun v σ' => v = (cbS (st, wt, br, dg, wu, fl)).2 ∧ RsI σ' 11 n (cbS (st, wt, br, dg, wu, fl)).1 ∧ Fr [35, 36, 11, 13] σ σ')) := by
  obtain ⟨hk1, hk2, hk3, hk4, hk5, hk6, hk7⟩ := id hk
  simp only at hk1 hk2 hk3 hk4 hk5 hk6 hk7
  refine e_aload_n (pc' := 1) dX5_closeBracket_0 rfl rfl ?_
  refine e_getI (pc' := 4) (v := br) dX5_closeBracket_1 rfl f_5_19 h_35 rfl hI.2.1 ?_
  refine e_ifI (pc' := 7) (t := 9) dX5_closeBracket_4 (by decide) rfl ⟨by omega, by omega⟩ (fun (c2_1 : (br : Int) ≠ 0) => ?_) (fun (c2_1 : ¬ ((br : Int) ≠ 0)) => ?_)
  · refine e_aload_n (pc' := 10) dX5_closeBracket_9 rfl rfl ?_
    refine e_aload_n (pc' := 11) dX5_closeBracket_10 rfl rfl ?_
    refine e_iconst (pc' := 12) dX5_closeBracket_11 rfl ?_
    refine e_cv2v (pc' := 15) dX5_closeBracket_12 rfl k_5_44 h_35 rfl (Nat.le_of_ble_eq_true rfl) rfl rfl ⟨rfl, rfl⟩ ⟨Nat.zero_le _, Nat.zero_le _⟩ (s_release_11 n br dg wu fl 1 ⟨by decide, by decide⟩ wt st _ hI hk) ?_
    rintro τ2 ⟨hI2, hF2⟩
    have hro := rlS_ok 1 wt st hk1 hk2 hk7
    refine e_aload_n (pc' := 16) dX5_closeBracket_15 rfl rfl ?_
    refine e_dup (pc' := 17) dX5_closeBracket_16 rfl rfl ?_
    refine e_getI (pc' := 20) (v := br) dX5_closeBracket_17 rfl f_5_19 h_35 rfl hI2.2.1 ?_
    refine e_iconst (pc' := 21) dX5_closeBracket_20 rfl ?_
    refine e_isub (pc' := 22) dX5_closeBracket_21 rfl ?_
    refine e_putI (pc' := 25) dX5_closeBracket_22 rfl f_5_19 h_35 rfl rfl rfl ?_
    refine e_aload_n (pc' := 26) dX5_closeBracket_25 rfl rfl ?_
    refine e_getI (pc' := 29) (v := ((rlS 1 wt st).1.length : Int)) dX5_closeBracket_26 rfl f_5_15 h_35 rfl hI2.1 ?_
    refine e_ifI (pc' := 32) (t := 42) dX5_closeBracket_29 (by decide) rfl ⟨by omega, by omega⟩ (fun (c4_2 : (((rlS 1 wt st).1.length : Int) : Int) ≤ 0) => ?_) (fun (c4_2 : ¬ ((((rlS 1 wt st).1.length : Int) : Int) ≤ 0)) => ?_)
    · refine e_iconst (pc' := 43) dX5_closeBracket_42 rfl ?_
      exact e_zret dX5_closeBracket_43 rfl (by decide) ⟨rfl, Nat.le_refl _⟩ (by
    have e : cbS (st, wt, br, dg, wu, fl) = (((rlS 1 wt st).2, (rlS 1 wt st).1.tail, br - 1, dg, wu, fl), 1) := (by unfold cbS; dsimp only; rw [if_neg (by omega)])
    rw [e]
    exact ⟨_, rfl, rfl, ⟨by have := hI2.1; show τ2.1 35 1 = ((rlS 1 wt st).1.tail.length : Int); rw [List.length_tail, this]; dsimp only; omega, rfl, hI2.2.2.1, hI2.2.2.2.1, isLst_tail hI2.2.2.2.2.1, hI2.2.2.2.2.2.1, hI2.2.2.2.2.2.2.1, hI2.2.2.2.2.2.2.2.1, hI2.2.2.2.2.2.2.2.2⟩, (fr_I hF2 (by decide))⟩)
    · refine e_aload_n (pc' := 33) dX5_closeBracket_32 rfl rfl ?_
      refine e_dup (pc' := 34) dX5_closeBracket_33 rfl rfl ?_
      refine e_getI (pc' := 37) (v := ((rlS 1 wt st).1.length : Int)) dX5_closeBracket_34 rfl f_5_15 h_35 rfl hI2.1 ?_
      refine e_iconst (pc' := 38) dX5_closeBracket_37 rfl ?_
      refine e_isub (pc' := 39) dX5_closeBracket_38 rfl ?_
      refine e_putI (pc' := 42) dX5_closeBracket_39 rfl f_5_15 h_35 rfl rfl rfl ?_
      refine e_iconst (pc' := 43) dX5_closeBracket_42 rfl ?_
      exact e_zret dX5_closeBracket_43 rfl (by decide) ⟨rfl, Nat.le_refl _⟩ (by
    have e : cbS (st, wt, br, dg, wu, fl) = (((rlS 1 wt st).2, (rlS 1 wt st).1.tail, br - 1, dg, wu, fl), 1) := (by unfold cbS; dsimp only; rw [if_neg (by omega)])
    rw [e]
    exact ⟨_, rfl, rfl, ⟨by show ((rlS 1 wt st).1.length : Int) - 1 = ((rlS 1 wt st).1.tail.length : Int); rw [List.length_tail]; omega, rfl, hI2.2.2.1, hI2.2.2.2.1, isLst_tail hI2.2.2.2.2.1, hI2.2.2.2.2.2.1, hI2.2.2.2.2.2.2.1, hI2.2.2.2.2.2.2.2.1, hI2.2.2.2.2.2.2.2.2⟩, (fr_I (fr_I hF2 (by decide)) (by decide))⟩)
  · refine e_iconst (pc' := 8) dX5_closeBracket_7 rfl ?_
    exact e_zret dX5_closeBracket_8 rfl (by decide) ⟨rfl, Nat.le_refl _⟩ ⟨_, rfl, by unfold cbS; dsimp only; rw [if_pos (by omega)], by unfold cbS; dsimp only; rw [if_pos (by omega)]; exact hI, Fr.rf⟩

set_option maxHeartbeats 4000000 in
set_option maxRecDepth 100000 in
theorem s_lastRank_11 {X : AX} {d : Nat} {σ : SG} (n : Int) (st wt : List Int) (br dg wu fl : Int) (hI : RsI σ 11 n (st, wt, br, dg, wu, fl)) (hk : rsOK (st, wt, br, dg, wu, fl)) : Ev X 0 0 (d + 1) mX5_lastRank 0 [some (rv 35)] [] σ (QI (fun v σ' => σ' = σ ∧ v = lrS wt)) := by
  obtain ⟨hk1, hk2, hk3, hk4, hk5, hk6, hk7⟩ := id hk
  simp only at hk1 hk2 hk3 hk4 hk5 hk6 hk7
  cases wt with
  | nil =>
    refine e_aload_n (pc' := 1) dX5_lastRank_0 rfl rfl ?_
    refine e_getI (pc' := 4) (v := (([] : List Int).length : Int)) dX5_lastRank_1 rfl f_5_15 h_35 rfl hI.1 ?_
    refine e_ifI (pc' := 7) (t := 24) dX5_lastRank_4 (by decide) rfl ⟨by omega, by omega⟩ (fun (c4_1 : ((([] : List Int).length : Int) : Int) ≤ 0) => ?_) (fun (c4_1 : ¬ (((([] : List Int).length : Int) : Int) ≤ 0)) => absurd (show ((([] : List Int).length : Nat) : Int) ≤ 0 by decide) c4_1)
    refine e_iconst (pc' := 25) dX5_lastRank_24 rfl ?_
    exact e_iret dX5_lastRank_25 rfl ⟨rfl, Nat.le_refl _⟩ ⟨_, rfl, rfl, rfl⟩
  | cons w ws =>
    have hl : (w :: ws).length = ws.length + 1 := rfl
    have hww : chr7 w := hk7 w List.mem_cons_self
    have hw1 := hww.1
    have hw2 := hww.2
    have hw0 : σ.1 36 (((w :: ws).length : Int) - 1) = w := by
      rw [show (((w :: ws).length : Int) - 1) = (ws.length : Int) by omega]
      exact hI.2.2.2.2.1.1
    refine e_aload_n (pc' := 1) dX5_lastRank_0 rfl rfl ?_
    refine e_getI (pc' := 4) (v := ((w :: ws).length : Int)) dX5_lastRank_1 rfl f_5_15 h_35 rfl hI.1 ?_
    refine e_ifI (pc' := 7) (t := 24) dX5_lastRank_4 (by decide) rfl ⟨by omega, by omega⟩ (fun (c4_1 : (((w :: ws).length : Int) : Int) ≤ 0) => absurd c4_1 (show ¬ ((w :: ws).length : Int) ≤ 0 by omega)) (fun (c4_1 : ¬ ((((w :: ws).length : Int) : Int) ≤ 0)) => ?_)
    refine e_aload_n (pc' := 8) dX5_lastRank_7 rfl rfl ?_
    refine e_getR (pc' := 11) dX5_lastRank_8 rfl f_5_9 h_35 rfl ?_
    refine e_aload_n (pc' := 12) dX5_lastRank_11 rfl rfl ?_
    refine e_getI (pc' := 15) (v := ((w :: ws).length : Int)) dX5_lastRank_12 rfl f_5_15 h_35 rfl hI.1 ?_
    refine e_iconst (pc' := 16) dX5_lastRank_15 rfl ?_
    refine e_isub (pc' := 17) dX5_lastRank_16 rfl ?_
    refine e_iald (pc' := 18) (v := w) dX5_lastRank_17 rfl h_36 (by decide) (by omega) (by omega) hw0 ?_
    refine e_cs1i (pc' := 21) dX5_lastRank_18 rfl pn_5_75 k_5_75 (Nat.le_of_ble_eq_true rfl) rfl rfl ⟨rfl, rfl⟩ ⟨Nat.zero_le _, Nat.zero_le _⟩ (s_rankOf w ⟨by omega, by omega⟩) ?_
    intro r σ' hr; rw [hr.1, hr.2]; clear hr
    refine e_goto (pc' := 25) dX5_lastRank_21 (by decide) ?_
    exact e_iret dX5_lastRank_25 rfl ⟨rfl, Nat.le_refl _⟩ ⟨_, rfl, rfl, rfl⟩

set_option maxHeartbeats 4000000 in
set_option maxRecDepth 100000 in
theorem s_readUnit_11 {X : AX} {d : Nat} {σ : SG} (n : Int) (st wt : List Int) (br dg wu fl : Int) (hI : RsI σ 11 n (st, wt, br, dg, wu, fl)) (hk : rsOK (st, wt, br, dg, wu, fl)) (p c : Int) (hp : 0 ≤ p ∧ p < 40) (hc : σ.1 12 p = c) (hcc : chr7 c) : Ev X 0 0 (d + 1) mX5_readUnit 0 [some (rv 35), some (rv 11), some (iv p), none] [] σ (QI (fun v σ' => v = (cuS (st, wt, br, dg, wu, fl) p c).2 ∧ RsI σ' 11 n (cuS (st, wt, br, dg, wu, fl) p c).1 ∧ Fr [35, 36, 11, 13] σ σ')) := by
  obtain ⟨hk1, hk2, hk3, hk4, hk5, hk6, hk7⟩ := id hk
  simp only at hk1 hk2 hk3 hk4 hk5 hk6 hk7
  obtain ⟨hc1, hc2⟩ := id hcc
  refine e_aload_n (pc' := 1) dX5_readUnit_0 rfl rfl ?_
  refine e_getR (pc' := 4) dX5_readUnit_1 rfl f_5_47 h_11 rfl ?_
  refine e_iload_n (pc' := 5) dX5_readUnit_4 rfl rfl ?_
  refine e_iald (pc' := 6) (v := c) dX5_readUnit_5 rfl h_12 (by decide) (by omega) (by omega) hc ?_
  refine e_istore_n (pc' := 7) (L' := [some (rv 35), some (rv 11), some (iv p), some (iv c)]) dX5_readUnit_6 rfl (by decide) rfl ?_
  refine e_iload_n (pc' := 8) dX5_readUnit_7 rfl rfl ?_
  by_cases k2_1 : c = 33
  · refine e_lookup (pc' := 97) (off := 89) dX5_readUnit_8 ⟨by omega, by omega⟩ (by decide) (by rw [k2_1]; rfl) (by decide) ?_
    refine e_aload_n (pc' := 98) dX5_readUnit_97 rfl rfl ?_
    refine e_bipush (pc' := 100) (z := 33) dX5_readUnit_98 rfl (by decide) ?_
    refine e_cv1v (pc' := 103) dX5_readUnit_100 rfl k_5_68 h_35 rfl (Nat.le_of_ble_eq_true rfl) rfl rfl ⟨rfl, rfl⟩ ⟨Nat.zero_le _, Nat.zero_le _⟩ (s_hold_r11 n st wt br dg wu fl hI hk 33) ?_
    rintro τ2 ⟨hI2, hF2⟩
    refine e_iconst (pc' := 104) dX5_readUnit_103 rfl ?_
    exact e_zret dX5_readUnit_104 rfl (by decide) ⟨rfl, Nat.le_refl _⟩ (by
    have e : cuS (st, wt, br, dg, wu, fl) p c = ((st, adL 33 wt, br, dg, wu, fl), 1) := (by unfold cuS; dsimp only; (repeat (first | (rw [if_pos (by omega)]) | (rw [if_neg (by omega)]))); try rfl)
    rw [e]
    exact ⟨_, rfl, rfl, hI2, hF2⟩)
  by_cases k2_2 : c = 40
  · refine e_lookup (pc' := 113) (off := 105) dX5_readUnit_8 ⟨by omega, by omega⟩ (by decide) (by rw [k2_2]; rfl) (by decide) ?_
    refine e_aload_n (pc' := 114) dX5_readUnit_113 rfl rfl ?_
    refine e_getI (pc' := 117) (v := br) dX5_readUnit_114 rfl f_5_19 h_35 rfl hI.2.1 ?_
    refine e_bipush (pc' := 119) (z := 8) dX5_readUnit_117 rfl (by decide) ?_
    refine e_icmpI (pc' := 122) (t := 134) dX5_readUnit_119 (by decide) rfl ⟨by omega, by omega⟩ ⟨by omega, by omega⟩ (fun (c4_3 : (br : Int) < 8) => ?_) (fun (c4_3 : ¬ ((br : Int) < 8)) => ?_)
    · refine e_aload_n (pc' := 135) dX5_readUnit_134 rfl rfl ?_
      refine e_dup (pc' := 136) dX5_readUnit_135 rfl rfl ?_
      refine e_getI (pc' := 139) (v := br) dX5_readUnit_136 rfl f_5_19 h_35 rfl hI.2.1 ?_
      refine e_iconst (pc' := 140) dX5_readUnit_139 rfl ?_
      refine e_iadd (pc' := 141) dX5_readUnit_140 rfl ?_
      refine e_putI (pc' := 144) dX5_readUnit_141 rfl f_5_19 h_35 rfl rfl rfl ?_
      have hIb : RsI (upI σ 35 2 (br + 1)) 11 n (st, wt, br + 1, dg, wu, fl) := ⟨hI.1, rfl, hI.2.2.1, hI.2.2.2.1, hI.2.2.2.2.1, hI.2.2.2.2.2.1, hI.2.2.2.2.2.2.1, hI.2.2.2.2.2.2.2.1, hI.2.2.2.2.2.2.2.2⟩
      have hkb : rsOK (st, wt, br + 1, dg, wu, fl) := ⟨hk1, hk2, ⟨by show 0 ≤ br + 1; omega, by show br + 1 ≤ 8; omega⟩, hk4, hk5, hk6, hk7⟩
      refine e_aload_n (pc' := 145) dX5_readUnit_144 rfl rfl ?_
      refine e_bipush (pc' := 147) (z := 40) dX5_readUnit_145 rfl (by decide) ?_
      refine e_cv1v (pc' := 150) dX5_readUnit_147 rfl k_5_68 h_35 rfl (Nat.le_of_ble_eq_true rfl) rfl rfl ⟨rfl, rfl⟩ ⟨Nat.zero_le _, Nat.zero_le _⟩ (s_hold_r11 n st wt (br + 1) dg wu fl hIb hkb 40) ?_
      rintro τ2 ⟨hI2, hF2⟩
      refine e_iconst (pc' := 151) dX5_readUnit_150 rfl ?_
      exact e_zret dX5_readUnit_151 rfl (by decide) ⟨rfl, Nat.le_refl _⟩ (by
    have e : cuS (st, wt, br, dg, wu, fl) p c = ((st, adL 40 wt, (br + 1), dg, wu, fl), 1) := (by unfold cuS; dsimp only; (repeat (first | (rw [if_pos (by omega)]) | (rw [if_neg (by omega)]))); try rfl)
    rw [e]
    exact ⟨_, rfl, rfl, hI2, ((fr_I Fr.rf (by decide)).tr hF2)⟩)
    · refine e_aload_n (pc' := 123) dX5_readUnit_122 rfl rfl ?_
      refine e_bipush (pc' := 125) (z := 10) dX5_readUnit_123 rfl (by decide) ?_
      refine e_iload_n (pc' := 126) dX5_readUnit_125 rfl rfl ?_
      refine e_imul (pc' := 127) dX5_readUnit_126 rfl ?_
      refine e_iconst (pc' := 128) dX5_readUnit_127 rfl ?_
      refine e_iadd (pc' := 129) dX5_readUnit_128 rfl ?_
      refine e_putI (pc' := 132) dX5_readUnit_129 rfl f_5_34 h_11 rfl rfl rfl ?_
      refine e_iconst (pc' := 133) dX5_readUnit_132 rfl ?_
      exact e_zret dX5_readUnit_133 rfl (by decide) ⟨rfl, Nat.le_refl _⟩ (by
    have e : cuS (st, wt, br, dg, wu, fl) p c = ((st, wt, br, dg, wu, 10 * p + 3), 0) := (by unfold cuS; dsimp only; (repeat (first | (rw [if_pos (by omega)]) | (rw [if_neg (by omega)]))); try rfl)
    rw [e]
    exact ⟨_, rfl, rfl, ⟨hI.1, hI.2.1, hI.2.2.1, hI.2.2.2.1, hI.2.2.2.2.1, hI.2.2.2.2.2.1, rfl, hI.2.2.2.2.2.2.2.1, hI.2.2.2.2.2.2.2.2⟩, (by repeat (first | exact Fr.rf | assumption | (refine fr_I ?_ (by decide)) | (refine fr_J ?_ (by decide)) | (refine fr_C ?_ (by decide))))⟩)
  by_cases k2_3 : c = 45
  · refine e_lookup (pc' := 105) (off := 97) dX5_readUnit_8 ⟨by omega, by omega⟩ (by decide) (by rw [k2_3]; rfl) (by decide) ?_
    refine e_aload_n (pc' := 106) dX5_readUnit_105 rfl rfl ?_
    refine e_bipush (pc' := 108) (z := 126) dX5_readUnit_106 rfl (by decide) ?_
    refine e_cv1v (pc' := 111) dX5_readUnit_108 rfl k_5_68 h_35 rfl (Nat.le_of_ble_eq_true rfl) rfl rfl ⟨rfl, rfl⟩ ⟨Nat.zero_le _, Nat.zero_le _⟩ (s_hold_r11 n st wt br dg wu fl hI hk 126) ?_
    rintro τ2 ⟨hI2, hF2⟩
    refine e_iconst (pc' := 112) dX5_readUnit_111 rfl ?_
    exact e_zret dX5_readUnit_112 rfl (by decide) ⟨rfl, Nat.le_refl _⟩ (by
    have e : cuS (st, wt, br, dg, wu, fl) p c = ((st, adL 126 wt, br, dg, wu, fl), 1) := (by unfold cuS; dsimp only; (repeat (first | (rw [if_pos (by omega)]) | (rw [if_neg (by omega)]))); try rfl)
    rw [e]
    exact ⟨_, rfl, rfl, hI2, hF2⟩)
  by_cases k2_4 : c = 108
  · refine e_lookup (pc' := 84) (off := 76) dX5_readUnit_8 ⟨by omega, by omega⟩ (by decide) (by rw [k2_4]; rfl) (by decide) ?_
    refine e_aload_n (pc' := 85) dX5_readUnit_84 rfl rfl ?_
    refine e_iload_n (pc' := 86) dX5_readUnit_85 rfl rfl ?_
    refine e_ineg (pc' := 87) dX5_readUnit_86 rfl ?_
    refine e_cv1v (pc' := 90) dX5_readUnit_87 rfl k_5_64 h_11 rfl (Nat.le_of_ble_eq_true rfl) rfl rfl ⟨rfl, rfl⟩ ⟨Nat.zero_le _, Nat.zero_le _⟩ (s_addStep_11 n st wt br dg wu fl hI hk (-c)) ?_
    rintro τ2 ⟨hI2, hF2⟩
    refine e_aload_n (pc' := 91) dX5_readUnit_90 rfl rfl ?_
    refine e_iconst (pc' := 92) dX5_readUnit_91 rfl ?_
    refine e_putI (pc' := 95) dX5_readUnit_92 rfl f_5_25 h_35 rfl rfl rfl ?_
    refine e_iconst (pc' := 96) dX5_readUnit_95 rfl ?_
    exact e_zret dX5_readUnit_96 rfl (by decide) ⟨rfl, Nat.le_refl _⟩ (by
    have e : cuS (st, wt, br, dg, wu, fl) p c = ((adL (-c) st, wt, br, dg, 0, fl), 1) := (by unfold cuS; dsimp only; (repeat (first | (rw [if_pos (by omega)]) | (rw [if_neg (by omega)]))); try rfl)
    rw [e]
    exact ⟨_, rfl, rfl, ⟨hI2.1, hI2.2.1, hI2.2.2.1, rfl, hI2.2.2.2.2.1, hI2.2.2.2.2.2.1, hI2.2.2.2.2.2.2.1, hI2.2.2.2.2.2.2.2.1, hI2.2.2.2.2.2.2.2.2⟩, (fr_I hF2 (by decide))⟩)
  by_cases k2_5 : c = 109
  · refine e_lookup (pc' := 84) (off := 76) dX5_readUnit_8 ⟨by omega, by omega⟩ (by decide) (by rw [k2_5]; rfl) (by decide) ?_
    refine e_aload_n (pc' := 85) dX5_readUnit_84 rfl rfl ?_
    refine e_iload_n (pc' := 86) dX5_readUnit_85 rfl rfl ?_
    refine e_ineg (pc' := 87) dX5_readUnit_86 rfl ?_
    refine e_cv1v (pc' := 90) dX5_readUnit_87 rfl k_5_64 h_11 rfl (Nat.le_of_ble_eq_true rfl) rfl rfl ⟨rfl, rfl⟩ ⟨Nat.zero_le _, Nat.zero_le _⟩ (s_addStep_11 n st wt br dg wu fl hI hk (-c)) ?_
    rintro τ2 ⟨hI2, hF2⟩
    refine e_aload_n (pc' := 91) dX5_readUnit_90 rfl rfl ?_
    refine e_iconst (pc' := 92) dX5_readUnit_91 rfl ?_
    refine e_putI (pc' := 95) dX5_readUnit_92 rfl f_5_25 h_35 rfl rfl rfl ?_
    refine e_iconst (pc' := 96) dX5_readUnit_95 rfl ?_
    exact e_zret dX5_readUnit_96 rfl (by decide) ⟨rfl, Nat.le_refl _⟩ (by
    have e : cuS (st, wt, br, dg, wu, fl) p c = ((adL (-c) st, wt, br, dg, 0, fl), 1) := (by unfold cuS; dsimp only; (repeat (first | (rw [if_pos (by omega)]) | (rw [if_neg (by omega)]))); try rfl)
    rw [e]
    exact ⟨_, rfl, rfl, ⟨hI2.1, hI2.2.1, hI2.2.2.1, rfl, hI2.2.2.2.2.1, hI2.2.2.2.2.2.1, hI2.2.2.2.2.2.2.1, hI2.2.2.2.2.2.2.2.1, hI2.2.2.2.2.2.2.2.2⟩, (fr_I hF2 (by decide))⟩)
  by_cases k2_6 : c = 110
  · refine e_lookup (pc' := 84) (off := 76) dX5_readUnit_8 ⟨by omega, by omega⟩ (by decide) (by rw [k2_6]; rfl) (by decide) ?_
    refine e_aload_n (pc' := 85) dX5_readUnit_84 rfl rfl ?_
    refine e_iload_n (pc' := 86) dX5_readUnit_85 rfl rfl ?_
    refine e_ineg (pc' := 87) dX5_readUnit_86 rfl ?_
    refine e_cv1v (pc' := 90) dX5_readUnit_87 rfl k_5_64 h_11 rfl (Nat.le_of_ble_eq_true rfl) rfl rfl ⟨rfl, rfl⟩ ⟨Nat.zero_le _, Nat.zero_le _⟩ (s_addStep_11 n st wt br dg wu fl hI hk (-c)) ?_
    rintro τ2 ⟨hI2, hF2⟩
    refine e_aload_n (pc' := 91) dX5_readUnit_90 rfl rfl ?_
    refine e_iconst (pc' := 92) dX5_readUnit_91 rfl ?_
    refine e_putI (pc' := 95) dX5_readUnit_92 rfl f_5_25 h_35 rfl rfl rfl ?_
    refine e_iconst (pc' := 96) dX5_readUnit_95 rfl ?_
    exact e_zret dX5_readUnit_96 rfl (by decide) ⟨rfl, Nat.le_refl _⟩ (by
    have e : cuS (st, wt, br, dg, wu, fl) p c = ((adL (-c) st, wt, br, dg, 0, fl), 1) := (by unfold cuS; dsimp only; (repeat (first | (rw [if_pos (by omega)]) | (rw [if_neg (by omega)]))); try rfl)
    rw [e]
    exact ⟨_, rfl, rfl, ⟨hI2.1, hI2.2.1, hI2.2.2.1, rfl, hI2.2.2.2.2.1, hI2.2.2.2.2.2.1, hI2.2.2.2.2.2.2.1, hI2.2.2.2.2.2.2.2.1, hI2.2.2.2.2.2.2.2.2⟩, (fr_I hF2 (by decide))⟩)
  by_cases k2_7 : c = 114
  · refine e_lookup (pc' := 84) (off := 76) dX5_readUnit_8 ⟨by omega, by omega⟩ (by decide) (by rw [k2_7]; rfl) (by decide) ?_
    refine e_aload_n (pc' := 85) dX5_readUnit_84 rfl rfl ?_
    refine e_iload_n (pc' := 86) dX5_readUnit_85 rfl rfl ?_
    refine e_ineg (pc' := 87) dX5_readUnit_86 rfl ?_
    refine e_cv1v (pc' := 90) dX5_readUnit_87 rfl k_5_64 h_11 rfl (Nat.le_of_ble_eq_true rfl) rfl rfl ⟨rfl, rfl⟩ ⟨Nat.zero_le _, Nat.zero_le _⟩ (s_addStep_11 n st wt br dg wu fl hI hk (-c)) ?_
    rintro τ2 ⟨hI2, hF2⟩
    refine e_aload_n (pc' := 91) dX5_readUnit_90 rfl rfl ?_
    refine e_iconst (pc' := 92) dX5_readUnit_91 rfl ?_
    refine e_putI (pc' := 95) dX5_readUnit_92 rfl f_5_25 h_35 rfl rfl rfl ?_
    refine e_iconst (pc' := 96) dX5_readUnit_95 rfl ?_
    exact e_zret dX5_readUnit_96 rfl (by decide) ⟨rfl, Nat.le_refl _⟩ (by
    have e : cuS (st, wt, br, dg, wu, fl) p c = ((adL (-c) st, wt, br, dg, 0, fl), 1) := (by unfold cuS; dsimp only; (repeat (first | (rw [if_pos (by omega)]) | (rw [if_neg (by omega)]))); try rfl)
    rw [e]
    exact ⟨_, rfl, rfl, ⟨hI2.1, hI2.2.1, hI2.2.2.1, rfl, hI2.2.2.2.2.1, hI2.2.2.2.2.2.1, hI2.2.2.2.2.2.2.1, hI2.2.2.2.2.2.2.2.1, hI2.2.2.2.2.2.2.2.2⟩, (fr_I hF2 (by decide))⟩)
  by_cases k2_8 : c = 115
  · refine e_lookup (pc' := 84) (off := 76) dX5_readUnit_8 ⟨by omega, by omega⟩ (by decide) (by rw [k2_8]; rfl) (by decide) ?_
    refine e_aload_n (pc' := 85) dX5_readUnit_84 rfl rfl ?_
    refine e_iload_n (pc' := 86) dX5_readUnit_85 rfl rfl ?_
    refine e_ineg (pc' := 87) dX5_readUnit_86 rfl ?_
    refine e_cv1v (pc' := 90) dX5_readUnit_87 rfl k_5_64 h_11 rfl (Nat.le_of_ble_eq_true rfl) rfl rfl ⟨rfl, rfl⟩ ⟨Nat.zero_le _, Nat.zero_le _⟩ (s_addStep_11 n st wt br dg wu fl hI hk (-c)) ?_
    rintro τ2 ⟨hI2, hF2⟩
    refine e_aload_n (pc' := 91) dX5_readUnit_90 rfl rfl ?_
    refine e_iconst (pc' := 92) dX5_readUnit_91 rfl ?_
    refine e_putI (pc' := 95) dX5_readUnit_92 rfl f_5_25 h_35 rfl rfl rfl ?_
    refine e_iconst (pc' := 96) dX5_readUnit_95 rfl ?_
    exact e_zret dX5_readUnit_96 rfl (by decide) ⟨rfl, Nat.le_refl _⟩ (by
    have e : cuS (st, wt, br, dg, wu, fl) p c = ((adL (-c) st, wt, br, dg, 0, fl), 1) := (by unfold cuS; dsimp only; (repeat (first | (rw [if_pos (by omega)]) | (rw [if_neg (by omega)]))); try rfl)
    rw [e]
    exact ⟨_, rfl, rfl, ⟨hI2.1, hI2.2.1, hI2.2.2.1, rfl, hI2.2.2.2.2.1, hI2.2.2.2.2.2.1, hI2.2.2.2.2.2.2.1, hI2.2.2.2.2.2.2.2.1, hI2.2.2.2.2.2.2.2.2⟩, (fr_I hF2 (by decide))⟩)
  refine e_lookup (pc' := 152) (off := 144) dX5_readUnit_8 ⟨by omega, by omega⟩ (by decide) (lk_none _ _ _ (by simp only [List.mem_cons, List.not_mem_nil, or_false, forall_eq_or_imp, forall_eq, ne_eq]; omega)) (by decide) ?_
  refine e_iconst (pc' := 153) dX5_readUnit_152 rfl ?_
  exact e_zret dX5_readUnit_153 rfl (by decide) ⟨rfl, Nat.le_refl _⟩ (by
    have e : cuS (st, wt, br, dg, wu, fl) p c = ((st, wt, br, dg, wu, fl), 0) := (by unfold cuS; dsimp only; (repeat (first | (rw [if_pos (by omega)]) | (rw [if_neg (by omega)]))); try rfl)
    rw [e]
    exact ⟨_, rfl, rfl, hI, Fr.rf⟩)

set_option maxHeartbeats 4000000 in
set_option maxRecDepth 100000 in
theorem s_readBehindUnit_11 {X : AX} {d : Nat} {σ : SG} (n : Int) (st wt : List Int) (br dg wu fl : Int) (hI : RsI σ 11 n (st, wt, br, dg, wu, fl)) (hk : rsOK (st, wt, br, dg, wu, fl)) (c : Int) (hcc : chr7 c) : Ev X 0 0 (d + 3) mX5_readBehindUnit 0 [some (rv 35), some (rv 11), some (iv c), none] [] σ (QI (fun v σ' => v = (buS (st, wt, br, dg, wu, fl) c).2 ∧ RsI σ' 11 n (buS (st, wt, br, dg, wu, fl) c).1 ∧ Fr [35, 36, 11, 13] σ σ')) := by
  obtain ⟨hk1, hk2, hk3, hk4, hk5, hk6, hk7⟩ := id hk
  simp only at hk1 hk2 hk3 hk4 hk5 hk6 hk7
  obtain ⟨hc1, hc2⟩ := id hcc
  refine e_iload_n (pc' := 1) dX5_readBehindUnit_0 rfl rfl ?_
  refine e_bipush (pc' := 3) (z := 41) dX5_readBehindUnit_1 rfl (by decide) ?_
  refine e_icmpI (pc' := 6) (t := 12) dX5_readBehindUnit_3 (by decide) rfl ⟨by omega, by omega⟩ ⟨by omega, by omega⟩ (fun (c2_1 : (c : Int) ≠ 41) => ?_) (fun (c2_1 : ¬ ((c : Int) ≠ 41)) => ?_)
  · refine e_iload_n (pc' := 13) dX5_readBehindUnit_12 rfl rfl ?_
    refine e_cs1i (pc' := 16) dX5_readBehindUnit_13 rfl pn_5_75 k_5_75 (Nat.le_of_ble_eq_true rfl) rfl rfl ⟨rfl, rfl⟩ ⟨Nat.zero_le _, Nat.zero_le _⟩ (s_rankOf c ⟨by omega, by omega⟩) ?_
    intro r σ' hr; rw [hr.1, hr.2]; clear hr
    have hrk := rkS_rg c
    refine e_istore_n (pc' := 17) (L' := [some (rv 35), some (rv 11), some (iv c), some (iv (rkS c))]) dX5_readBehindUnit_16 rfl (by decide) rfl ?_
    refine e_iload_n (pc' := 18) dX5_readBehindUnit_17 rfl rfl ?_
    refine e_ifI (pc' := 21) (t := 27) dX5_readBehindUnit_18 (by decide) rfl ⟨by omega, by omega⟩ (fun (c4_2 : ((rkS c) : Int) = 0) => ?_) (fun (c4_2 : ¬ (((rkS c) : Int) = 0)) => ?_)
    · refine e_iconst (pc' := 28) dX5_readBehindUnit_27 rfl ?_
      exact e_zret dX5_readBehindUnit_28 rfl (by decide) ⟨rfl, Nat.le_refl _⟩ (by
    have e : buS (st, wt, br, dg, wu, fl) c = ((st, wt, br, dg, wu, fl), 0) := (by unfold buS; (repeat (first | (rw [if_pos (by omega)]) | (rw [if_neg (by omega)]))))
    rw [e]
    exact ⟨_, rfl, rfl, hI, Fr.rf⟩)
    · refine e_iload_n (pc' := 22) dX5_readBehindUnit_21 rfl rfl ?_
      refine e_bipush (pc' := 24) (z := 6) dX5_readBehindUnit_22 rfl (by decide) ?_
      refine e_icmpI (pc' := 27) (t := 29) dX5_readBehindUnit_24 (by decide) rfl ⟨by omega, by omega⟩ ⟨by omega, by omega⟩ (fun (c6_3 : ((rkS c) : Int) ≠ 6) => ?_) (fun (c6_3 : ¬ (((rkS c) : Int) ≠ 6)) => ?_)
      · refine e_aload_n (pc' := 30) dX5_readBehindUnit_29 rfl rfl ?_
        refine e_aload_n (pc' := 31) dX5_readBehindUnit_30 rfl rfl ?_
        refine e_iload_n (pc' := 32) dX5_readBehindUnit_31 rfl rfl ?_
        refine e_iconst (pc' := 33) dX5_readBehindUnit_32 rfl ?_
        refine e_icmpI (pc' := 36) (t := 42) dX5_readBehindUnit_33 (by decide) rfl ⟨by omega, by omega⟩ ⟨by omega, by omega⟩ (fun (c8_4 : ((rkS c) : Int) ≠ 3) => ?_) (fun (c8_4 : ¬ (((rkS c) : Int) ≠ 3)) => ?_)
        · refine e_iload_n (pc' := 43) dX5_readBehindUnit_42 rfl rfl ?_
          refine e_cv2v (pc' := 46) dX5_readBehindUnit_43 rfl k_5_44 h_35 rfl (Nat.le_of_ble_eq_true rfl) rfl rfl ⟨rfl, rfl⟩ ⟨Nat.zero_le _, Nat.zero_le _⟩ (s_release_11 n br dg wu fl (rkS c) ⟨by omega, by omega⟩ wt st _ hI hk) ?_
          rintro τ2 ⟨hI2, hF2⟩
          have hro := rlS_ok (rkS c) wt st hk1 hk2 hk7
          have hk2' : rsOK ((rlS (rkS c) wt st).2, (rlS (rkS c) wt st).1, br, dg, wu, fl) := ⟨hro.1, hro.2.1, hk3, hk4, hk5, hk6, hro.2.2⟩
          refine e_iload_n (pc' := 47) dX5_readBehindUnit_46 rfl rfl ?_
          refine e_iconst (pc' := 48) dX5_readBehindUnit_47 rfl ?_
          refine e_icmpI (pc' := 51) (t := 61) dX5_readBehindUnit_48 (by decide) rfl ⟨by omega, by omega⟩ ⟨by omega, by omega⟩ (fun (c10_5 : ((rkS c) : Int) ≠ 3) => ?_) (fun (c10_5 : ¬ (((rkS c) : Int) ≠ 3)) => ?_)
          · refine e_aload_n (pc' := 62) dX5_readBehindUnit_61 rfl rfl ?_
            refine e_iload_n (pc' := 63) dX5_readBehindUnit_62 rfl rfl ?_
            refine e_cv1v (pc' := 66) dX5_readBehindUnit_63 rfl k_5_68 h_35 rfl (Nat.le_of_ble_eq_true rfl) rfl rfl ⟨rfl, rfl⟩ ⟨Nat.zero_le _, Nat.zero_le _⟩ (s_hold_r11 n (rlS (rkS c) wt st).2 (rlS (rkS c) wt st).1 br dg wu fl hI2 hk2' c) ?_
            rintro τ3 ⟨hI3, hF3⟩
            refine e_aload_n (pc' := 67) dX5_readBehindUnit_66 rfl rfl ?_
            refine e_iconst (pc' := 68) dX5_readBehindUnit_67 rfl ?_
            refine e_putI (pc' := 71) dX5_readBehindUnit_68 rfl f_5_25 h_35 rfl rfl rfl ?_
            refine e_iconst (pc' := 72) dX5_readBehindUnit_71 rfl ?_
            exact e_zret dX5_readBehindUnit_72 rfl (by decide) ⟨rfl, Nat.le_refl _⟩ (by first | (exfalso; omega) | (have ek : krS c = (rkS c) := (by unfold krS; split <;> omega); have e : buS (st, wt, br, dg, wu, fl) c = (((rlS (rkS c) wt st).2, adL c (rlS (rkS c) wt st).1, br, dg, 1, fl), 1) := (by unfold buS; dsimp only; rw [ek]; (repeat (first | (rw [if_pos (by omega)]) | (rw [if_neg (by omega)]))); try rfl); rw [e]; exact ⟨_, rfl, rfl, ⟨hI3.1, hI3.2.1, hI3.2.2.1, rfl, hI3.2.2.2.2.1, hI3.2.2.2.2.2.1, hI3.2.2.2.2.2.2.1, hI3.2.2.2.2.2.2.2.1, hI3.2.2.2.2.2.2.2.2⟩, (fr_I (hF2.tr hF3) (by decide))⟩))
          · refine e_aload_n (pc' := 52) dX5_readBehindUnit_51 rfl rfl ?_
            refine e_cv0i (pc' := 55) dX5_readBehindUnit_52 rfl k_5_79 h_35 rfl (Nat.le_of_ble_eq_true rfl) rfl rfl ⟨rfl, rfl⟩ ⟨Nat.zero_le _, Nat.zero_le _⟩ (s_lastRank_11 n (rlS (rkS c) wt st).2 (rlS (rkS c) wt st).1 br dg wu fl hI2 hk2') ?_
            intro v3 σ' hr; rw [hr.1, hr.2]; clear hr
            have hlr : 0 ≤ lrS (rlS (rkS c) wt st).1 ∧ lrS (rlS (rkS c) wt st).1 ≤ 6 := lrS_rg _
            refine e_iconst (pc' := 56) dX5_readBehindUnit_55 rfl ?_
            refine e_icmpI (pc' := 59) (t := 61) dX5_readBehindUnit_56 (by decide) rfl ⟨by omega, by omega⟩ ⟨by omega, by omega⟩ (fun (c12_6 : ((lrS (rlS (rkS c) wt st).1) : Int) ≠ 3) => ?_) (fun (c12_6 : ¬ (((lrS (rlS (rkS c) wt st).1) : Int) ≠ 3)) => ?_)
            · refine e_aload_n (pc' := 62) dX5_readBehindUnit_61 rfl rfl ?_
              refine e_iload_n (pc' := 63) dX5_readBehindUnit_62 rfl rfl ?_
              refine e_cv1v (pc' := 66) dX5_readBehindUnit_63 rfl k_5_68 h_35 rfl (Nat.le_of_ble_eq_true rfl) rfl rfl ⟨rfl, rfl⟩ ⟨Nat.zero_le _, Nat.zero_le _⟩ (s_hold_r11 n (rlS (rkS c) wt st).2 (rlS (rkS c) wt st).1 br dg wu fl hI2 hk2' c) ?_
              rintro τ3 ⟨hI3, hF3⟩
              refine e_aload_n (pc' := 67) dX5_readBehindUnit_66 rfl rfl ?_
              refine e_iconst (pc' := 68) dX5_readBehindUnit_67 rfl ?_
              refine e_putI (pc' := 71) dX5_readBehindUnit_68 rfl f_5_25 h_35 rfl rfl rfl ?_
              refine e_iconst (pc' := 72) dX5_readBehindUnit_71 rfl ?_
              exact e_zret dX5_readBehindUnit_72 rfl (by decide) ⟨rfl, Nat.le_refl _⟩ (by first | (exfalso; omega) | (have ek : krS c = (rkS c) := (by unfold krS; split <;> omega); have e : buS (st, wt, br, dg, wu, fl) c = (((rlS (rkS c) wt st).2, adL c (rlS (rkS c) wt st).1, br, dg, 1, fl), 1) := (by unfold buS; dsimp only; rw [ek]; (repeat (first | (rw [if_pos (by omega)]) | (rw [if_neg (by omega)]))); try rfl); rw [e]; exact ⟨_, rfl, rfl, ⟨hI3.1, hI3.2.1, hI3.2.2.1, rfl, hI3.2.2.2.2.1, hI3.2.2.2.2.2.1, hI3.2.2.2.2.2.2.1, hI3.2.2.2.2.2.2.2.1, hI3.2.2.2.2.2.2.2.2⟩, (fr_I (hF2.tr hF3) (by decide))⟩))
            · refine e_iconst (pc' := 60) dX5_readBehindUnit_59 rfl ?_
              exact e_zret dX5_readBehindUnit_60 rfl (by decide) ⟨rfl, Nat.le_refl _⟩ (by first | (exfalso; omega) | (have ek : krS c = (rkS c) := (by unfold krS; split <;> omega); have e : buS (st, wt, br, dg, wu, fl) c = (((rlS (rkS c) wt st).2, (rlS (rkS c) wt st).1, br, dg, wu, fl), 0) := (by unfold buS; dsimp only; rw [ek]; (repeat (first | (rw [if_pos (by omega)]) | (rw [if_neg (by omega)]))); try rfl); rw [e]; exact ⟨_, rfl, rfl, hI2, hF2⟩))
        · refine e_iload_n (pc' := 37) dX5_readBehindUnit_36 rfl rfl ?_
          refine e_iconst (pc' := 38) dX5_readBehindUnit_37 rfl ?_
          refine e_iadd (pc' := 39) dX5_readBehindUnit_38 rfl ?_
          refine e_goto (pc' := 43) dX5_readBehindUnit_39 (by decide) ?_
          refine e_cv2v (pc' := 46) dX5_readBehindUnit_43 rfl k_5_44 h_35 rfl (Nat.le_of_ble_eq_true rfl) rfl rfl ⟨rfl, rfl⟩ ⟨Nat.zero_le _, Nat.zero_le _⟩ (s_release_11 n br dg wu fl ((rkS c) + 1) ⟨by omega, by omega⟩ wt st _ hI hk) ?_
          rintro τ2 ⟨hI2, hF2⟩
          have hro := rlS_ok ((rkS c) + 1) wt st hk1 hk2 hk7
          have hk2' : rsOK ((rlS ((rkS c) + 1) wt st).2, (rlS ((rkS c) + 1) wt st).1, br, dg, wu, fl) := ⟨hro.1, hro.2.1, hk3, hk4, hk5, hk6, hro.2.2⟩
          refine e_iload_n (pc' := 47) dX5_readBehindUnit_46 rfl rfl ?_
          refine e_iconst (pc' := 48) dX5_readBehindUnit_47 rfl ?_
          refine e_icmpI (pc' := 51) (t := 61) dX5_readBehindUnit_48 (by decide) rfl ⟨by omega, by omega⟩ ⟨by omega, by omega⟩ (fun (c10_5 : ((rkS c) : Int) ≠ 3) => ?_) (fun (c10_5 : ¬ (((rkS c) : Int) ≠ 3)) => ?_)
          · refine e_aload_n (pc' := 62) dX5_readBehindUnit_61 rfl rfl ?_
            refine e_iload_n (pc' := 63) dX5_readBehindUnit_62 rfl rfl ?_
            refine e_cv1v (pc' := 66) dX5_readBehindUnit_63 rfl k_5_68 h_35 rfl (Nat.le_of_ble_eq_true rfl) rfl rfl ⟨rfl, rfl⟩ ⟨Nat.zero_le _, Nat.zero_le _⟩ (s_hold_r11 n (rlS ((rkS c) + 1) wt st).2 (rlS ((rkS c) + 1) wt st).1 br dg wu fl hI2 hk2' c) ?_
            rintro τ3 ⟨hI3, hF3⟩
            refine e_aload_n (pc' := 67) dX5_readBehindUnit_66 rfl rfl ?_
            refine e_iconst (pc' := 68) dX5_readBehindUnit_67 rfl ?_
            refine e_putI (pc' := 71) dX5_readBehindUnit_68 rfl f_5_25 h_35 rfl rfl rfl ?_
            refine e_iconst (pc' := 72) dX5_readBehindUnit_71 rfl ?_
            exact e_zret dX5_readBehindUnit_72 rfl (by decide) ⟨rfl, Nat.le_refl _⟩ (by first | (exfalso; omega) | (have ek : krS c = ((rkS c) + 1) := (by unfold krS; split <;> omega); have e : buS (st, wt, br, dg, wu, fl) c = (((rlS ((rkS c) + 1) wt st).2, adL c (rlS ((rkS c) + 1) wt st).1, br, dg, 1, fl), 1) := (by unfold buS; dsimp only; rw [ek]; (repeat (first | (rw [if_pos (by omega)]) | (rw [if_neg (by omega)]))); try rfl); rw [e]; exact ⟨_, rfl, rfl, ⟨hI3.1, hI3.2.1, hI3.2.2.1, rfl, hI3.2.2.2.2.1, hI3.2.2.2.2.2.1, hI3.2.2.2.2.2.2.1, hI3.2.2.2.2.2.2.2.1, hI3.2.2.2.2.2.2.2.2⟩, (fr_I (hF2.tr hF3) (by decide))⟩))
          · refine e_aload_n (pc' := 52) dX5_readBehindUnit_51 rfl rfl ?_
            refine e_cv0i (pc' := 55) dX5_readBehindUnit_52 rfl k_5_79 h_35 rfl (Nat.le_of_ble_eq_true rfl) rfl rfl ⟨rfl, rfl⟩ ⟨Nat.zero_le _, Nat.zero_le _⟩ (s_lastRank_11 n (rlS ((rkS c) + 1) wt st).2 (rlS ((rkS c) + 1) wt st).1 br dg wu fl hI2 hk2') ?_
            intro v3 σ' hr; rw [hr.1, hr.2]; clear hr
            have hlr : 0 ≤ lrS (rlS ((rkS c) + 1) wt st).1 ∧ lrS (rlS ((rkS c) + 1) wt st).1 ≤ 6 := lrS_rg _
            refine e_iconst (pc' := 56) dX5_readBehindUnit_55 rfl ?_
            refine e_icmpI (pc' := 59) (t := 61) dX5_readBehindUnit_56 (by decide) rfl ⟨by omega, by omega⟩ ⟨by omega, by omega⟩ (fun (c12_6 : ((lrS (rlS ((rkS c) + 1) wt st).1) : Int) ≠ 3) => ?_) (fun (c12_6 : ¬ (((lrS (rlS ((rkS c) + 1) wt st).1) : Int) ≠ 3)) => ?_)
            · refine e_aload_n (pc' := 62) dX5_readBehindUnit_61 rfl rfl ?_
              refine e_iload_n (pc' := 63) dX5_readBehindUnit_62 rfl rfl ?_
              refine e_cv1v (pc' := 66) dX5_readBehindUnit_63 rfl k_5_68 h_35 rfl (Nat.le_of_ble_eq_true rfl) rfl rfl ⟨rfl, rfl⟩ ⟨Nat.zero_le _, Nat.zero_le _⟩ (s_hold_r11 n (rlS ((rkS c) + 1) wt st).2 (rlS ((rkS c) + 1) wt st).1 br dg wu fl hI2 hk2' c) ?_
              rintro τ3 ⟨hI3, hF3⟩
              refine e_aload_n (pc' := 67) dX5_readBehindUnit_66 rfl rfl ?_
              refine e_iconst (pc' := 68) dX5_readBehindUnit_67 rfl ?_
              refine e_putI (pc' := 71) dX5_readBehindUnit_68 rfl f_5_25 h_35 rfl rfl rfl ?_
              refine e_iconst (pc' := 72) dX5_readBehindUnit_71 rfl ?_
              exact e_zret dX5_readBehindUnit_72 rfl (by decide) ⟨rfl, Nat.le_refl _⟩ (by first | (exfalso; omega) | (have ek : krS c = ((rkS c) + 1) := (by unfold krS; split <;> omega); have e : buS (st, wt, br, dg, wu, fl) c = (((rlS ((rkS c) + 1) wt st).2, adL c (rlS ((rkS c) + 1) wt st).1, br, dg, 1, fl), 1) := (by unfold buS; dsimp only; rw [ek]; (repeat (first | (rw [if_pos (by omega)]) | (rw [if_neg (by omega)]))); try rfl); rw [e]; exact ⟨_, rfl, rfl, ⟨hI3.1, hI3.2.1, hI3.2.2.1, rfl, hI3.2.2.2.2.1, hI3.2.2.2.2.2.1, hI3.2.2.2.2.2.2.1, hI3.2.2.2.2.2.2.2.1, hI3.2.2.2.2.2.2.2.2⟩, (fr_I (hF2.tr hF3) (by decide))⟩))
            · refine e_iconst (pc' := 60) dX5_readBehindUnit_59 rfl ?_
              exact e_zret dX5_readBehindUnit_60 rfl (by decide) ⟨rfl, Nat.le_refl _⟩ (by first | (exfalso; omega) | (have ek : krS c = ((rkS c) + 1) := (by unfold krS; split <;> omega); have e : buS (st, wt, br, dg, wu, fl) c = (((rlS ((rkS c) + 1) wt st).2, (rlS ((rkS c) + 1) wt st).1, br, dg, wu, fl), 0) := (by unfold buS; dsimp only; rw [ek]; (repeat (first | (rw [if_pos (by omega)]) | (rw [if_neg (by omega)]))); try rfl); rw [e]; exact ⟨_, rfl, rfl, hI2, hF2⟩))
      · refine e_iconst (pc' := 28) dX5_readBehindUnit_27 rfl ?_
        exact e_zret dX5_readBehindUnit_28 rfl (by decide) ⟨rfl, Nat.le_refl _⟩ (by
    have e : buS (st, wt, br, dg, wu, fl) c = ((st, wt, br, dg, wu, fl), 0) := (by unfold buS; (repeat (first | (rw [if_pos (by omega)]) | (rw [if_neg (by omega)]))))
    rw [e]
    exact ⟨_, rfl, rfl, hI, Fr.rf⟩)
  · refine e_aload_n (pc' := 7) dX5_readBehindUnit_6 rfl rfl ?_
    refine e_aload_n (pc' := 8) dX5_readBehindUnit_7 rfl rfl ?_
    refine e_cv1i (pc' := 11) dX5_readBehindUnit_8 rfl k_5_71 h_35 rfl (Nat.le_of_ble_eq_true rfl) rfl rfl ⟨rfl, rfl⟩ ⟨Nat.zero_le _, Nat.zero_le _⟩ (s_closeBracket_11 n st wt br dg wu fl hI hk) ?_
    rintro v2 τ2 ⟨hv2, hI2, hF2⟩
    exact e_zret dX5_readBehindUnit_11 rfl (by rw [hv2]; exact (cbS_ok hk).2) ⟨rfl, Nat.le_refl _⟩ (by
    have e : buS (st, wt, br, dg, wu, fl) c = cbS (st, wt, br, dg, wu, fl) := (by unfold buS; rw [if_pos (by omega)])
    rw [e]
    exact ⟨_, rfl, hv2, hI2, hF2⟩)

set_option maxHeartbeats 4000000 in
set_option maxRecDepth 100000 in
theorem s_readDigit_14 {X : AX} {d : Nat} {σ : SG} (n : Int) (st wt : List Int) (br dg wu fl : Int) (hI : RsI σ 14 n (st, wt, br, dg, wu, fl)) (hk : rsOK (st, wt, br, dg, wu, fl)) (p x : Int) (hp : 0 ≤ p ∧ p < 40) (hx : 0 ≤ x ∧ x ≤ 9) : Ev X 0 0 (d + 1) mX5_readDigit 0 [some (rv 35), some (rv 14), some (iv p), some (iv x), none] [] σ (QV (fun σ' => RsI σ' 14 n (dgS (st, wt, br, dg, wu, fl) p x) ∧ Fr [35, 36, 14, 16] σ σ')) := by
  obtain ⟨hk1, hk2, hk3, hk4, hk5, hk6, hk7⟩ := id hk
  simp only at hk1 hk2 hk3 hk4 hk5 hk6 hk7
  cases st with
  | nil =>
    have hl : (([] : List Int).length : Nat) = 0 := rfl
    refine e_aload_n (pc' := 1) dX5_readDigit_0 rfl rfl ?_
    refine e_getI (pc' := 4) (v := (([] : List Int).length : Int)) dX5_readDigit_1 rfl f_5_29 h_14 rfl hI.2.2.2.2.2.1 ?_
    refine e_iconst (pc' := 5) dX5_readDigit_4 rfl ?_
    refine e_isub (pc' := 6) dX5_readDigit_5 rfl ?_
    refine e_istore (pc' := 8) (L' := [some (rv 35), some (rv 14), some (iv p), some (iv x), some (iv ((([] : List Int).length : Int) - 1))]) dX5_readDigit_6 rfl (by decide) rfl ?_
    refine e_aload_n (pc' := 9) dX5_readDigit_8 rfl rfl ?_
    refine e_getI (pc' := 12) (v := dg) dX5_readDigit_9 rfl f_5_22 h_35 rfl hI.2.2.1 ?_
    refine e_bipush (pc' := 14) (z := 6) dX5_readDigit_12 rfl (by decide) ?_
    refine e_icmpI (pc' := 17) (t := 33) dX5_readDigit_14 (by decide) rfl ⟨by omega, by omega⟩ ⟨by omega, by omega⟩ (fun (c4_1 : (dg : Int) ≠ 6) => ?_) (fun (c4_1 : ¬ ((dg : Int) ≠ 6)) => ?_)
    · refine e_aload_n (pc' := 34) dX5_readDigit_33 rfl rfl ?_
      refine e_getI (pc' := 37) (v := dg) dX5_readDigit_34 rfl f_5_22 h_35 rfl hI.2.2.1 ?_
      refine e_ifI (pc' := 40) (t := 77) dX5_readDigit_37 (by decide) rfl ⟨by omega, by omega⟩ (fun (c6_2 : (dg : Int) ≤ 0) => ?_) (fun (c6_2 : ¬ ((dg : Int) ≤ 0)) => ?_)
      · refine e_aload_n (pc' := 78) dX5_readDigit_77 rfl rfl ?_
        refine e_getI (pc' := 81) (v := wu) dX5_readDigit_78 rfl f_5_25 h_35 rfl hI.2.2.2.1 ?_
        refine e_ifI (pc' := 84) (t := 102) dX5_readDigit_81 (by decide) rfl ⟨by omega, by omega⟩ (fun (c8_3 : (wu : Int) = 0) => ?_) (fun (c8_3 : ¬ ((wu : Int) = 0)) => ?_)
        · refine e_aload_n (pc' := 103) dX5_readDigit_102 rfl rfl ?_
          refine e_bipush (pc' := 105) (z := 10) dX5_readDigit_103 rfl (by decide) ?_
          refine e_iload_n (pc' := 106) dX5_readDigit_105 rfl rfl ?_
          refine e_imul (pc' := 107) dX5_readDigit_106 rfl ?_
          refine e_iconst (pc' := 108) dX5_readDigit_107 rfl ?_
          refine e_iadd (pc' := 109) dX5_readDigit_108 rfl ?_
          refine e_putI (pc' := 112) dX5_readDigit_109 rfl f_5_34 h_14 rfl rfl rfl ?_
          exact e_vret dX5_readDigit_112 rfl ⟨rfl, Nat.le_refl _⟩ ⟨rfl, by have e : dgS (([] : List Int), wt, br, dg, wu, fl) p x = (([] : List Int), wt, br, dg, wu, 10 * p + 1) := (by unfold dgS; dsimp only; (repeat (first | (rw [if_pos (by omega)]) | (rw [if_neg (by omega)]))); try rfl); rw [e]; exact ⟨hI.1, hI.2.1, hI.2.2.1, hI.2.2.2.1, hI.2.2.2.2.1, hI.2.2.2.2.2.1, rfl, hI.2.2.2.2.2.2.2.1, hI.2.2.2.2.2.2.2.2⟩, (by repeat (first | exact Fr.rf | assumption | (refine fr_I ?_ (by decide)) | (refine fr_J ?_ (by decide)) | (refine fr_C ?_ (by decide))))⟩
        · refine e_aload_n (pc' := 85) dX5_readDigit_84 rfl rfl ?_
          refine e_iload_n (pc' := 86) dX5_readDigit_85 rfl rfl ?_
          refine e_cv1v (pc' := 89) dX5_readDigit_86 rfl k_5_64 h_14 rfl (Nat.le_of_ble_eq_true rfl) rfl rfl ⟨rfl, rfl⟩ ⟨Nat.zero_le _, Nat.zero_le _⟩ (s_addStep_14 n ([] : List Int) wt br dg wu fl hI hk x) ?_
          rintro τ2 ⟨hI2, hF2⟩
          refine e_aload_n (pc' := 90) dX5_readDigit_89 rfl rfl ?_
          refine e_iconst (pc' := 91) dX5_readDigit_90 rfl ?_
          refine e_putI (pc' := 94) dX5_readDigit_91 rfl f_5_25 h_35 rfl rfl rfl ?_
          refine e_aload_n (pc' := 95) dX5_readDigit_94 rfl rfl ?_
          refine e_iconst (pc' := 96) dX5_readDigit_95 rfl ?_
          refine e_putI (pc' := 99) dX5_readDigit_96 rfl f_5_22 h_35 rfl rfl rfl ?_
          refine e_goto (pc' := 112) dX5_readDigit_99 (by decide) ?_
          exact e_vret dX5_readDigit_112 rfl ⟨rfl, Nat.le_refl _⟩ ⟨rfl, by have e : dgS (([] : List Int), wt, br, dg, wu, fl) p x = (adL x ([] : List Int), wt, br, 1, 0, fl) := (by unfold dgS; dsimp only; (repeat (first | (rw [if_pos (by omega)]) | (rw [if_neg (by omega)]))); try rfl); rw [e]; exact ⟨hI2.1, hI2.2.1, rfl, rfl, hI2.2.2.2.2.1, hI2.2.2.2.2.2.1, hI2.2.2.2.2.2.2.1, hI2.2.2.2.2.2.2.2.1, hI2.2.2.2.2.2.2.2.2⟩, (fr_I (fr_I hF2 (by decide)) (by decide))⟩
      · refine e_iload (pc' := 42) dX5_readDigit_40 rfl rfl ?_
        refine e_ifI (pc' := 45) (t := 77) dX5_readDigit_42 (by decide) rfl ⟨by omega, by omega⟩ (fun (c8_3 : (((([] : List Int).length : Int) - 1) : Int) < 0) => ?_) (fun (c8_3 : ¬ ((((([] : List Int).length : Int) - 1) : Int) < 0)) => absurd (show (((([] : List Int).length : Nat) : Int) - 1 : Int) < 0 by decide) c8_3)
        refine e_aload_n (pc' := 78) dX5_readDigit_77 rfl rfl ?_
        refine e_getI (pc' := 81) (v := wu) dX5_readDigit_78 rfl f_5_25 h_35 rfl hI.2.2.2.1 ?_
        refine e_ifI (pc' := 84) (t := 102) dX5_readDigit_81 (by decide) rfl ⟨by omega, by omega⟩ (fun (c8_4 : (wu : Int) = 0) => ?_) (fun (c8_4 : ¬ ((wu : Int) = 0)) => ?_)
        · refine e_aload_n (pc' := 103) dX5_readDigit_102 rfl rfl ?_
          refine e_bipush (pc' := 105) (z := 10) dX5_readDigit_103 rfl (by decide) ?_
          refine e_iload_n (pc' := 106) dX5_readDigit_105 rfl rfl ?_
          refine e_imul (pc' := 107) dX5_readDigit_106 rfl ?_
          refine e_iconst (pc' := 108) dX5_readDigit_107 rfl ?_
          refine e_iadd (pc' := 109) dX5_readDigit_108 rfl ?_
          refine e_putI (pc' := 112) dX5_readDigit_109 rfl f_5_34 h_14 rfl rfl rfl ?_
          exact e_vret dX5_readDigit_112 rfl ⟨rfl, Nat.le_refl _⟩ ⟨rfl, by have e : dgS (([] : List Int), wt, br, dg, wu, fl) p x = (([] : List Int), wt, br, dg, wu, 10 * p + 1) := (by unfold dgS; dsimp only; (repeat (first | (rw [if_pos (by omega)]) | (rw [if_neg (by omega)]))); try rfl); rw [e]; exact ⟨hI.1, hI.2.1, hI.2.2.1, hI.2.2.2.1, hI.2.2.2.2.1, hI.2.2.2.2.2.1, rfl, hI.2.2.2.2.2.2.2.1, hI.2.2.2.2.2.2.2.2⟩, (by repeat (first | exact Fr.rf | assumption | (refine fr_I ?_ (by decide)) | (refine fr_J ?_ (by decide)) | (refine fr_C ?_ (by decide))))⟩
        · refine e_aload_n (pc' := 85) dX5_readDigit_84 rfl rfl ?_
          refine e_iload_n (pc' := 86) dX5_readDigit_85 rfl rfl ?_
          refine e_cv1v (pc' := 89) dX5_readDigit_86 rfl k_5_64 h_14 rfl (Nat.le_of_ble_eq_true rfl) rfl rfl ⟨rfl, rfl⟩ ⟨Nat.zero_le _, Nat.zero_le _⟩ (s_addStep_14 n ([] : List Int) wt br dg wu fl hI hk x) ?_
          rintro τ2 ⟨hI2, hF2⟩
          refine e_aload_n (pc' := 90) dX5_readDigit_89 rfl rfl ?_
          refine e_iconst (pc' := 91) dX5_readDigit_90 rfl ?_
          refine e_putI (pc' := 94) dX5_readDigit_91 rfl f_5_25 h_35 rfl rfl rfl ?_
          refine e_aload_n (pc' := 95) dX5_readDigit_94 rfl rfl ?_
          refine e_iconst (pc' := 96) dX5_readDigit_95 rfl ?_
          refine e_putI (pc' := 99) dX5_readDigit_96 rfl f_5_22 h_35 rfl rfl rfl ?_
          refine e_goto (pc' := 112) dX5_readDigit_99 (by decide) ?_
          exact e_vret dX5_readDigit_112 rfl ⟨rfl, Nat.le_refl _⟩ ⟨rfl, by have e : dgS (([] : List Int), wt, br, dg, wu, fl) p x = (adL x ([] : List Int), wt, br, 1, 0, fl) := (by unfold dgS; dsimp only; (repeat (first | (rw [if_pos (by omega)]) | (rw [if_neg (by omega)]))); try rfl); rw [e]; exact ⟨hI2.1, hI2.2.1, rfl, rfl, hI2.2.2.2.2.1, hI2.2.2.2.2.2.1, hI2.2.2.2.2.2.2.1, hI2.2.2.2.2.2.2.2.1, hI2.2.2.2.2.2.2.2.2⟩, (fr_I (fr_I hF2 (by decide)) (by decide))⟩
    · refine e_aload_n (pc' := 18) dX5_readDigit_17 rfl rfl ?_
      refine e_bipush (pc' := 20) (z := 10) dX5_readDigit_18 rfl (by decide) ?_
      refine e_iload_n (pc' := 21) dX5_readDigit_20 rfl rfl ?_
      refine e_bipush (pc' := 23) (z := 6) dX5_readDigit_21 rfl (by decide) ?_
      refine e_isub (pc' := 24) dX5_readDigit_23 rfl ?_
      refine e_imul (pc' := 25) dX5_readDigit_24 rfl ?_
      refine e_iconst (pc' := 26) dX5_readDigit_25 rfl ?_
      refine e_iadd (pc' := 27) dX5_readDigit_26 rfl ?_
      refine e_putI (pc' := 30) dX5_readDigit_27 rfl f_5_34 h_14 rfl rfl rfl ?_
      refine e_goto (pc' := 112) dX5_readDigit_30 (by decide) ?_
      exact e_vret dX5_readDigit_112 rfl ⟨rfl, Nat.le_refl _⟩ ⟨rfl, by have e : dgS (([] : List Int), wt, br, dg, wu, fl) p x = (([] : List Int), wt, br, dg, wu, 10 * (p - 6) + 2) := (by unfold dgS; dsimp only; (repeat (first | (rw [if_pos (by omega)]) | (rw [if_neg (by omega)]))); try rfl); rw [e]; exact ⟨hI.1, hI.2.1, hI.2.2.1, hI.2.2.2.1, hI.2.2.2.2.1, hI.2.2.2.2.2.1, rfl, hI.2.2.2.2.2.2.2.1, hI.2.2.2.2.2.2.2.2⟩, (by repeat (first | exact Fr.rf | assumption | (refine fr_I ?_ (by decide)) | (refine fr_J ?_ (by decide)) | (refine fr_C ?_ (by decide))))⟩
  | cons a l =>
    have hl : (a :: l).length = l.length + 1 := rfl
    have ha0 : σ.1 16 (((a :: l).length : Int) - 1) = a := by
      rw [show (((a :: l).length : Int) - 1) = (l.length : Int) by omega]
      exact hI.2.2.2.2.2.2.2.1.1
    refine e_aload_n (pc' := 1) dX5_readDigit_0 rfl rfl ?_
    refine e_getI (pc' := 4) (v := ((a :: l).length : Int)) dX5_readDigit_1 rfl f_5_29 h_14 rfl hI.2.2.2.2.2.1 ?_
    refine e_iconst (pc' := 5) dX5_readDigit_4 rfl ?_
    refine e_isub (pc' := 6) dX5_readDigit_5 rfl ?_
    refine e_istore (pc' := 8) (L' := [some (rv 35), some (rv 14), some (iv p), some (iv x), some (iv (((a :: l).length : Int) - 1))]) dX5_readDigit_6 rfl (by decide) rfl ?_
    refine e_aload_n (pc' := 9) dX5_readDigit_8 rfl rfl ?_
    refine e_getI (pc' := 12) (v := dg) dX5_readDigit_9 rfl f_5_22 h_35 rfl hI.2.2.1 ?_
    refine e_bipush (pc' := 14) (z := 6) dX5_readDigit_12 rfl (by decide) ?_
    refine e_icmpI (pc' := 17) (t := 33) dX5_readDigit_14 (by decide) rfl ⟨by omega, by omega⟩ ⟨by omega, by omega⟩ (fun (c4_1 : (dg : Int) ≠ 6) => ?_) (fun (c4_1 : ¬ ((dg : Int) ≠ 6)) => ?_)
    · refine e_aload_n (pc' := 34) dX5_readDigit_33 rfl rfl ?_
      refine e_getI (pc' := 37) (v := dg) dX5_readDigit_34 rfl f_5_22 h_35 rfl hI.2.2.1 ?_
      refine e_ifI (pc' := 40) (t := 77) dX5_readDigit_37 (by decide) rfl ⟨by omega, by omega⟩ (fun (c6_2 : (dg : Int) ≤ 0) => ?_) (fun (c6_2 : ¬ ((dg : Int) ≤ 0)) => ?_)
      · refine e_aload_n (pc' := 78) dX5_readDigit_77 rfl rfl ?_
        refine e_getI (pc' := 81) (v := wu) dX5_readDigit_78 rfl f_5_25 h_35 rfl hI.2.2.2.1 ?_
        refine e_ifI (pc' := 84) (t := 102) dX5_readDigit_81 (by decide) rfl ⟨by omega, by omega⟩ (fun (c8_3 : (wu : Int) = 0) => ?_) (fun (c8_3 : ¬ ((wu : Int) = 0)) => ?_)
        · refine e_aload_n (pc' := 103) dX5_readDigit_102 rfl rfl ?_
          refine e_bipush (pc' := 105) (z := 10) dX5_readDigit_103 rfl (by decide) ?_
          refine e_iload_n (pc' := 106) dX5_readDigit_105 rfl rfl ?_
          refine e_imul (pc' := 107) dX5_readDigit_106 rfl ?_
          refine e_iconst (pc' := 108) dX5_readDigit_107 rfl ?_
          refine e_iadd (pc' := 109) dX5_readDigit_108 rfl ?_
          refine e_putI (pc' := 112) dX5_readDigit_109 rfl f_5_34 h_14 rfl rfl rfl ?_
          exact e_vret dX5_readDigit_112 rfl ⟨rfl, Nat.le_refl _⟩ ⟨rfl, by have e : dgS ((a :: l), wt, br, dg, wu, fl) p x = ((a :: l), wt, br, dg, wu, 10 * p + 1) := (by unfold dgS; dsimp only; (repeat (first | (rw [if_pos (by omega)]) | (rw [if_neg (by omega)]))); try rfl); rw [e]; exact ⟨hI.1, hI.2.1, hI.2.2.1, hI.2.2.2.1, hI.2.2.2.2.1, hI.2.2.2.2.2.1, rfl, hI.2.2.2.2.2.2.2.1, hI.2.2.2.2.2.2.2.2⟩, (by repeat (first | exact Fr.rf | assumption | (refine fr_I ?_ (by decide)) | (refine fr_J ?_ (by decide)) | (refine fr_C ?_ (by decide))))⟩
        · refine e_aload_n (pc' := 85) dX5_readDigit_84 rfl rfl ?_
          refine e_iload_n (pc' := 86) dX5_readDigit_85 rfl rfl ?_
          refine e_cv1v (pc' := 89) dX5_readDigit_86 rfl k_5_64 h_14 rfl (Nat.le_of_ble_eq_true rfl) rfl rfl ⟨rfl, rfl⟩ ⟨Nat.zero_le _, Nat.zero_le _⟩ (s_addStep_14 n (a :: l) wt br dg wu fl hI hk x) ?_
          rintro τ2 ⟨hI2, hF2⟩
          refine e_aload_n (pc' := 90) dX5_readDigit_89 rfl rfl ?_
          refine e_iconst (pc' := 91) dX5_readDigit_90 rfl ?_
          refine e_putI (pc' := 94) dX5_readDigit_91 rfl f_5_25 h_35 rfl rfl rfl ?_
          refine e_aload_n (pc' := 95) dX5_readDigit_94 rfl rfl ?_
          refine e_iconst (pc' := 96) dX5_readDigit_95 rfl ?_
          refine e_putI (pc' := 99) dX5_readDigit_96 rfl f_5_22 h_35 rfl rfl rfl ?_
          refine e_goto (pc' := 112) dX5_readDigit_99 (by decide) ?_
          exact e_vret dX5_readDigit_112 rfl ⟨rfl, Nat.le_refl _⟩ ⟨rfl, by have e : dgS ((a :: l), wt, br, dg, wu, fl) p x = (adL x (a :: l), wt, br, 1, 0, fl) := (by unfold dgS; dsimp only; (repeat (first | (rw [if_pos (by omega)]) | (rw [if_neg (by omega)]))); try rfl); rw [e]; exact ⟨hI2.1, hI2.2.1, rfl, rfl, hI2.2.2.2.2.1, hI2.2.2.2.2.2.1, hI2.2.2.2.2.2.2.1, hI2.2.2.2.2.2.2.2.1, hI2.2.2.2.2.2.2.2.2⟩, (fr_I (fr_I hF2 (by decide)) (by decide))⟩
      · refine e_iload (pc' := 42) dX5_readDigit_40 rfl rfl ?_
        refine e_ifI (pc' := 45) (t := 77) dX5_readDigit_42 (by decide) rfl ⟨by omega, by omega⟩ (fun (c8_3 : ((((a :: l).length : Int) - 1) : Int) < 0) => absurd c8_3 (show ¬ (((a :: l).length : Int) - 1 < 0) by omega)) (fun (c8_3 : ¬ (((((a :: l).length : Int) - 1) : Int) < 0)) => ?_)
        refine e_aload_n (pc' := 46) dX5_readDigit_45 rfl rfl ?_
        refine e_getR (pc' := 49) dX5_readDigit_46 rfl f_5_61 h_14 rfl ?_
        refine e_iload (pc' := 51) dX5_readDigit_49 rfl rfl ?_
        refine e_bipush (pc' := 53) (z := 10) dX5_readDigit_51 rfl (by decide) ?_
        refine e_aload_n (pc' := 54) dX5_readDigit_53 rfl rfl ?_
        refine e_getR (pc' := 57) dX5_readDigit_54 rfl f_5_61 h_14 rfl ?_
        refine e_iload (pc' := 59) dX5_readDigit_57 rfl rfl ?_
        refine e_iald (pc' := 60) (v := a) dX5_readDigit_59 rfl h_16 (by decide) (by omega) (by omega) ha0 ?_
        refine e_imul (pc' := 61) dX5_readDigit_60 rfl ?_
        refine e_iload_n (pc' := 62) dX5_readDigit_61 rfl rfl ?_
        refine e_iadd (pc' := 63) dX5_readDigit_62 rfl ?_
        refine e_iast (pc' := 64) dX5_readDigit_63 rfl h_16 (by decide) (by omega) (by omega) ?_
        refine e_aload_n (pc' := 65) dX5_readDigit_64 rfl rfl ?_
        refine e_dup (pc' := 66) dX5_readDigit_65 rfl rfl ?_
        refine e_getI (pc' := 69) (v := dg) dX5_readDigit_66 rfl f_5_22 h_35 rfl hI.2.2.1 ?_
        refine e_iconst (pc' := 70) dX5_readDigit_69 rfl ?_
        refine e_iadd (pc' := 71) dX5_readDigit_70 rfl ?_
        refine e_putI (pc' := 74) dX5_readDigit_71 rfl f_5_22 h_35 rfl rfl rfl ?_
        refine e_goto (pc' := 112) dX5_readDigit_74 (by decide) ?_
        exact e_vret dX5_readDigit_112 rfl ⟨rfl, Nat.le_refl _⟩ ⟨rfl, by have e : dgS ((a :: l), wt, br, dg, wu, fl) p x = ((10 * a + x) :: l, wt, br, dg + 1, wu, fl) := (by unfold dgS; dsimp only; (repeat (first | (rw [if_pos (by omega)]) | (rw [if_neg (by omega)]))); try rfl); rw [e]; exact ⟨hI.1, hI.2.1, rfl, hI.2.2.2.1, hI.2.2.2.2.1, (hI.2.2.2.2.2.1 : σ.1 14 3 = _), hI.2.2.2.2.2.2.1, ⟨if_pos ⟨rfl, by omega⟩, isLst_upI (σ := σ) (q := 16) (by omega) hI.2.2.2.2.2.2.2.1.2⟩, hI.2.2.2.2.2.2.2.2⟩, (by repeat (first | exact Fr.rf | assumption | (refine fr_I ?_ (by decide)) | (refine fr_J ?_ (by decide)) | (refine fr_C ?_ (by decide))))⟩
    · refine e_aload_n (pc' := 18) dX5_readDigit_17 rfl rfl ?_
      refine e_bipush (pc' := 20) (z := 10) dX5_readDigit_18 rfl (by decide) ?_
      refine e_iload_n (pc' := 21) dX5_readDigit_20 rfl rfl ?_
      refine e_bipush (pc' := 23) (z := 6) dX5_readDigit_21 rfl (by decide) ?_
      refine e_isub (pc' := 24) dX5_readDigit_23 rfl ?_
      refine e_imul (pc' := 25) dX5_readDigit_24 rfl ?_
      refine e_iconst (pc' := 26) dX5_readDigit_25 rfl ?_
      refine e_iadd (pc' := 27) dX5_readDigit_26 rfl ?_
      refine e_putI (pc' := 30) dX5_readDigit_27 rfl f_5_34 h_14 rfl rfl rfl ?_
      refine e_goto (pc' := 112) dX5_readDigit_30 (by decide) ?_
      exact e_vret dX5_readDigit_112 rfl ⟨rfl, Nat.le_refl _⟩ ⟨rfl, by have e : dgS ((a :: l), wt, br, dg, wu, fl) p x = ((a :: l), wt, br, dg, wu, 10 * (p - 6) + 2) := (by unfold dgS; dsimp only; (repeat (first | (rw [if_pos (by omega)]) | (rw [if_neg (by omega)]))); try rfl); rw [e]; exact ⟨hI.1, hI.2.1, hI.2.2.1, hI.2.2.2.1, hI.2.2.2.2.1, hI.2.2.2.2.2.1, rfl, hI.2.2.2.2.2.2.2.1, hI.2.2.2.2.2.2.2.2⟩, (by repeat (first | exact Fr.rf | assumption | (refine fr_I ?_ (by decide)) | (refine fr_J ?_ (by decide)) | (refine fr_C ?_ (by decide))))⟩

set_option maxHeartbeats 4000000 in
set_option maxRecDepth 100000 in
theorem s_closeBracket_14 {X : AX} {d : Nat} {σ : SG} (n : Int) (st wt : List Int) (br dg wu fl : Int) (hI : RsI σ 14 n (st, wt, br, dg, wu, fl)) (hk : rsOK (st, wt, br, dg, wu, fl)) : Ev X 0 0 (d + 2) mX5_closeBracket 0 [some (rv 35), some (rv 14)] [] σ (QI (fun v σ' => v = (cbS (st, wt, br, dg, wu, fl)).2 ∧ RsI σ' 14 n (cbS (st, wt, br, dg, wu, fl)).1 ∧ Fr [35, 36, 14, 16] σ σ')) := by
  obtain ⟨hk1, hk2, hk3, hk4, hk5, hk6, hk7⟩ := id hk
  simp only at hk1 hk2 hk3 hk4 hk5 hk6 hk7
  refine e_aload_n (pc' := 1) dX5_closeBracket_0 rfl rfl ?_
  refine e_getI (pc' := 4) (v := br) dX5_closeBracket_1 rfl f_5_19 h_35 rfl hI.2.1 ?_
  refine e_ifI (pc' := 7) (t := 9) dX5_closeBracket_4 (by decide) rfl ⟨by omega, by omega⟩ (fun (c2_1 : (br : Int) ≠ 0) => ?_) (fun (c2_1 : ¬ ((br : Int) ≠ 0)) => ?_)
  · refine e_aload_n (pc' := 10) dX5_closeBracket_9 rfl rfl ?_
    refine e_aload_n (pc' := 11) dX5_closeBracket_10 rfl rfl ?_
    refine e_iconst (pc' := 12) dX5_closeBracket_11 rfl ?_
    refine e_cv2v (pc' := 15) dX5_closeBracket_12 rfl k_5_44 h_35 rfl (Nat.le_of_ble_eq_true rfl) rfl rfl ⟨rfl, rfl⟩ ⟨Nat.zero_le _, Nat.zero_le _⟩ (s_release_14 n br dg wu fl 1 ⟨by decide, by decide⟩ wt st _ hI hk) ?_
    rintro τ2 ⟨hI2, hF2⟩
    have hro := rlS_ok 1 wt st hk1 hk2 hk7
    refine e_aload_n (pc' := 16) dX5_closeBracket_15 rfl rfl ?_
    refine e_dup (pc' := 17) dX5_closeBracket_16 rfl rfl ?_
    refine e_getI (pc' := 20) (v := br) dX5_closeBracket_17 rfl f_5_19 h_35 rfl hI2.2.1 ?_
    refine e_iconst (pc' := 21) dX5_closeBracket_20 rfl ?_
    refine e_isub (pc' := 22) dX5_closeBracket_21 rfl ?_
    refine e_putI (pc' := 25) dX5_closeBracket_22 rfl f_5_19 h_35 rfl rfl rfl ?_
    refine e_aload_n (pc' := 26) dX5_closeBracket_25 rfl rfl ?_
    refine e_getI (pc' := 29) (v := ((rlS 1 wt st).1.length : Int)) dX5_closeBracket_26 rfl f_5_15 h_35 rfl hI2.1 ?_
    refine e_ifI (pc' := 32) (t := 42) dX5_closeBracket_29 (by decide) rfl ⟨by omega, by omega⟩ (fun (c4_2 : (((rlS 1 wt st).1.length : Int) : Int) ≤ 0) => ?_) (fun (c4_2 : ¬ ((((rlS 1 wt st).1.length : Int) : Int) ≤ 0)) => ?_)
    · refine e_iconst (pc' := 43) dX5_closeBracket_42 rfl ?_
      exact e_zret dX5_closeBracket_43 rfl (by decide) ⟨rfl, Nat.le_refl _⟩ (by
    have e : cbS (st, wt, br, dg, wu, fl) = (((rlS 1 wt st).2, (rlS 1 wt st).1.tail, br - 1, dg, wu, fl), 1) := (by unfold cbS; dsimp only; rw [if_neg (by omega)])
    rw [e]
    exact ⟨_, rfl, rfl, ⟨by have := hI2.1; show τ2.1 35 1 = ((rlS 1 wt st).1.tail.length : Int); rw [List.length_tail, this]; dsimp only; omega, rfl, hI2.2.2.1, hI2.2.2.2.1, isLst_tail hI2.2.2.2.2.1, hI2.2.2.2.2.2.1, hI2.2.2.2.2.2.2.1, hI2.2.2.2.2.2.2.2.1, hI2.2.2.2.2.2.2.2.2⟩, (fr_I hF2 (by decide))⟩)
    · refine e_aload_n (pc' := 33) dX5_closeBracket_32 rfl rfl ?_
      refine e_dup (pc' := 34) dX5_closeBracket_33 rfl rfl ?_
      refine e_getI (pc' := 37) (v := ((rlS 1 wt st).1.length : Int)) dX5_closeBracket_34 rfl f_5_15 h_35 rfl hI2.1 ?_
      refine e_iconst (pc' := 38) dX5_closeBracket_37 rfl ?_
      refine e_isub (pc' := 39) dX5_closeBracket_38 rfl ?_
      refine e_putI (pc' := 42) dX5_closeBracket_39 rfl f_5_15 h_35 rfl rfl rfl ?_
      refine e_iconst (pc' := 43) dX5_closeBracket_42 rfl ?_
      exact e_zret dX5_closeBracket_43 rfl (by decide) ⟨rfl, Nat.le_refl _⟩ (by
    have e : cbS (st, wt, br, dg, wu, fl) = (((rlS 1 wt st).2, (rlS 1 wt st).1.tail, br - 1, dg, wu, fl), 1) := (by unfold cbS; dsimp only; rw [if_neg (by omega)])
    rw [e]
    exact ⟨_, rfl, rfl, ⟨by show ((rlS 1 wt st).1.length : Int) - 1 = ((rlS 1 wt st).1.tail.length : Int); rw [List.length_tail]; omega, rfl, hI2.2.2.1, hI2.2.2.2.1, isLst_tail hI2.2.2.2.2.1, hI2.2.2.2.2.2.1, hI2.2.2.2.2.2.2.1, hI2.2.2.2.2.2.2.2.1, hI2.2.2.2.2.2.2.2.2⟩, (fr_I (fr_I hF2 (by decide)) (by decide))⟩)
  · refine e_iconst (pc' := 8) dX5_closeBracket_7 rfl ?_
    exact e_zret dX5_closeBracket_8 rfl (by decide) ⟨rfl, Nat.le_refl _⟩ ⟨_, rfl, by unfold cbS; dsimp only; rw [if_pos (by omega)], by unfold cbS; dsimp only; rw [if_pos (by omega)]; exact hI, Fr.rf⟩

set_option maxHeartbeats 4000000 in
set_option maxRecDepth 100000 in
theorem s_lastRank_14 {X : AX} {d : Nat} {σ : SG} (n : Int) (st wt : List Int) (br dg wu fl : Int) (hI : RsI σ 14 n (st, wt, br, dg, wu, fl)) (hk : rsOK (st, wt, br, dg, wu, fl)) : Ev X 0 0 (d + 1) mX5_lastRank 0 [some (rv 35)] [] σ (QI (fun v σ' => σ' = σ ∧ v = lrS wt)) := by
  obtain ⟨hk1, hk2, hk3, hk4, hk5, hk6, hk7⟩ := id hk
  simp only at hk1 hk2 hk3 hk4 hk5 hk6 hk7
  cases wt with
  | nil =>
    refine e_aload_n (pc' := 1) dX5_lastRank_0 rfl rfl ?_
    refine e_getI (pc' := 4) (v := (([] : List Int).length : Int)) dX5_lastRank_1 rfl f_5_15 h_35 rfl hI.1 ?_
    refine e_ifI (pc' := 7) (t := 24) dX5_lastRank_4 (by decide) rfl ⟨by omega, by omega⟩ (fun (c4_1 : ((([] : List Int).length : Int) : Int) ≤ 0) => ?_) (fun (c4_1 : ¬ (((([] : List Int).length : Int) : Int) ≤ 0)) => absurd (show ((([] : List Int).length : Nat) : Int) ≤ 0 by decide) c4_1)
    refine e_iconst (pc' := 25) dX5_lastRank_24 rfl ?_
    exact e_iret dX5_lastRank_25 rfl ⟨rfl, Nat.le_refl _⟩ ⟨_, rfl, rfl, rfl⟩
  | cons w ws =>
    have hl : (w :: ws).length = ws.length + 1 := rfl
    have hww : chr7 w := hk7 w List.mem_cons_self
    have hw1 := hww.1
    have hw2 := hww.2
    have hw0 : σ.1 36 (((w :: ws).length : Int) - 1) = w := by
      rw [show (((w :: ws).length : Int) - 1) = (ws.length : Int) by omega]
      exact hI.2.2.2.2.1.1
    refine e_aload_n (pc' := 1) dX5_lastRank_0 rfl rfl ?_
    refine e_getI (pc' := 4) (v := ((w :: ws).length : Int)) dX5_lastRank_1 rfl f_5_15 h_35 rfl hI.1 ?_
    refine e_ifI (pc' := 7) (t := 24) dX5_lastRank_4 (by decide) rfl ⟨by omega, by omega⟩ (fun (c4_1 : (((w :: ws).length : Int) : Int) ≤ 0) => absurd c4_1 (show ¬ ((w :: ws).length : Int) ≤ 0 by omega)) (fun (c4_1 : ¬ ((((w :: ws).length : Int) : Int) ≤ 0)) => ?_)
    refine e_aload_n (pc' := 8) dX5_lastRank_7 rfl rfl ?_
    refine e_getR (pc' := 11) dX5_lastRank_8 rfl f_5_9 h_35 rfl ?_
    refine e_aload_n (pc' := 12) dX5_lastRank_11 rfl rfl ?_
    refine e_getI (pc' := 15) (v := ((w :: ws).length : Int)) dX5_lastRank_12 rfl f_5_15 h_35 rfl hI.1 ?_
    refine e_iconst (pc' := 16) dX5_lastRank_15 rfl ?_
    refine e_isub (pc' := 17) dX5_lastRank_16 rfl ?_
    refine e_iald (pc' := 18) (v := w) dX5_lastRank_17 rfl h_36 (by decide) (by omega) (by omega) hw0 ?_
    refine e_cs1i (pc' := 21) dX5_lastRank_18 rfl pn_5_75 k_5_75 (Nat.le_of_ble_eq_true rfl) rfl rfl ⟨rfl, rfl⟩ ⟨Nat.zero_le _, Nat.zero_le _⟩ (s_rankOf w ⟨by omega, by omega⟩) ?_
    intro r σ' hr; rw [hr.1, hr.2]; clear hr
    refine e_goto (pc' := 25) dX5_lastRank_21 (by decide) ?_
    exact e_iret dX5_lastRank_25 rfl ⟨rfl, Nat.le_refl _⟩ ⟨_, rfl, rfl, rfl⟩

set_option maxHeartbeats 4000000 in
set_option maxRecDepth 100000 in
theorem s_readUnit_14 {X : AX} {d : Nat} {σ : SG} (n : Int) (st wt : List Int) (br dg wu fl : Int) (hI : RsI σ 14 n (st, wt, br, dg, wu, fl)) (hk : rsOK (st, wt, br, dg, wu, fl)) (p c : Int) (hp : 0 ≤ p ∧ p < 40) (hc : σ.1 15 p = c) (hcc : chr7 c) : Ev X 0 0 (d + 1) mX5_readUnit 0 [some (rv 35), some (rv 14), some (iv p), none] [] σ (QI (fun v σ' => v = (cuS (st, wt, br, dg, wu, fl) p c).2 ∧ RsI σ' 14 n (cuS (st, wt, br, dg, wu, fl) p c).1 ∧ Fr [35, 36, 14, 16] σ σ')) := by
  obtain ⟨hk1, hk2, hk3, hk4, hk5, hk6, hk7⟩ := id hk
  simp only at hk1 hk2 hk3 hk4 hk5 hk6 hk7
  obtain ⟨hc1, hc2⟩ := id hcc
  refine e_aload_n (pc' := 1) dX5_readUnit_0 rfl rfl ?_
  refine e_getR (pc' := 4) dX5_readUnit_1 rfl f_5_47 h_14 rfl ?_
  refine e_iload_n (pc' := 5) dX5_readUnit_4 rfl rfl ?_
  refine e_iald (pc' := 6) (v := c) dX5_readUnit_5 rfl h_15 (by decide) (by omega) (by omega) hc ?_
  refine e_istore_n (pc' := 7) (L' := [some (rv 35), some (rv 14), some (iv p), some (iv c)]) dX5_readUnit_6 rfl (by decide) rfl ?_
  refine e_iload_n (pc' := 8) dX5_readUnit_7 rfl rfl ?_
  by_cases k2_1 : c = 33
  · refine e_lookup (pc' := 97) (off := 89) dX5_readUnit_8 ⟨by omega, by omega⟩ (by decide) (by rw [k2_1]; rfl) (by decide) ?_
    refine e_aload_n (pc' := 98) dX5_readUnit_97 rfl rfl ?_
    refine e_bipush (pc' := 100) (z := 33) dX5_readUnit_98 rfl (by decide) ?_
    refine e_cv1v (pc' := 103) dX5_readUnit_100 rfl k_5_68 h_35 rfl (Nat.le_of_ble_eq_true rfl) rfl rfl ⟨rfl, rfl⟩ ⟨Nat.zero_le _, Nat.zero_le _⟩ (s_hold_r14 n st wt br dg wu fl hI hk 33) ?_
    rintro τ2 ⟨hI2, hF2⟩
    refine e_iconst (pc' := 104) dX5_readUnit_103 rfl ?_
    exact e_zret dX5_readUnit_104 rfl (by decide) ⟨rfl, Nat.le_refl _⟩ (by
    have e : cuS (st, wt, br, dg, wu, fl) p c = ((st, adL 33 wt, br, dg, wu, fl), 1) := (by unfold cuS; dsimp only; (repeat (first | (rw [if_pos (by omega)]) | (rw [if_neg (by omega)]))); try rfl)
    rw [e]
    exact ⟨_, rfl, rfl, hI2, hF2⟩)
  by_cases k2_2 : c = 40
  · refine e_lookup (pc' := 113) (off := 105) dX5_readUnit_8 ⟨by omega, by omega⟩ (by decide) (by rw [k2_2]; rfl) (by decide) ?_
    refine e_aload_n (pc' := 114) dX5_readUnit_113 rfl rfl ?_
    refine e_getI (pc' := 117) (v := br) dX5_readUnit_114 rfl f_5_19 h_35 rfl hI.2.1 ?_
    refine e_bipush (pc' := 119) (z := 8) dX5_readUnit_117 rfl (by decide) ?_
    refine e_icmpI (pc' := 122) (t := 134) dX5_readUnit_119 (by decide) rfl ⟨by omega, by omega⟩ ⟨by omega, by omega⟩ (fun (c4_3 : (br : Int) < 8) => ?_) (fun (c4_3 : ¬ ((br : Int) < 8)) => ?_)
    · refine e_aload_n (pc' := 135) dX5_readUnit_134 rfl rfl ?_
      refine e_dup (pc' := 136) dX5_readUnit_135 rfl rfl ?_
      refine e_getI (pc' := 139) (v := br) dX5_readUnit_136 rfl f_5_19 h_35 rfl hI.2.1 ?_
      refine e_iconst (pc' := 140) dX5_readUnit_139 rfl ?_
      refine e_iadd (pc' := 141) dX5_readUnit_140 rfl ?_
      refine e_putI (pc' := 144) dX5_readUnit_141 rfl f_5_19 h_35 rfl rfl rfl ?_
      have hIb : RsI (upI σ 35 2 (br + 1)) 14 n (st, wt, br + 1, dg, wu, fl) := ⟨hI.1, rfl, hI.2.2.1, hI.2.2.2.1, hI.2.2.2.2.1, hI.2.2.2.2.2.1, hI.2.2.2.2.2.2.1, hI.2.2.2.2.2.2.2.1, hI.2.2.2.2.2.2.2.2⟩
      have hkb : rsOK (st, wt, br + 1, dg, wu, fl) := ⟨hk1, hk2, ⟨by show 0 ≤ br + 1; omega, by show br + 1 ≤ 8; omega⟩, hk4, hk5, hk6, hk7⟩
      refine e_aload_n (pc' := 145) dX5_readUnit_144 rfl rfl ?_
      refine e_bipush (pc' := 147) (z := 40) dX5_readUnit_145 rfl (by decide) ?_
      refine e_cv1v (pc' := 150) dX5_readUnit_147 rfl k_5_68 h_35 rfl (Nat.le_of_ble_eq_true rfl) rfl rfl ⟨rfl, rfl⟩ ⟨Nat.zero_le _, Nat.zero_le _⟩ (s_hold_r14 n st wt (br + 1) dg wu fl hIb hkb 40) ?_
      rintro τ2 ⟨hI2, hF2⟩
      refine e_iconst (pc' := 151) dX5_readUnit_150 rfl ?_
      exact e_zret dX5_readUnit_151 rfl (by decide) ⟨rfl, Nat.le_refl _⟩ (by
    have e : cuS (st, wt, br, dg, wu, fl) p c = ((st, adL 40 wt, (br + 1), dg, wu, fl), 1) := (by unfold cuS; dsimp only; (repeat (first | (rw [if_pos (by omega)]) | (rw [if_neg (by omega)]))); try rfl)
    rw [e]
    exact ⟨_, rfl, rfl, hI2, ((fr_I Fr.rf (by decide)).tr hF2)⟩)
    · refine e_aload_n (pc' := 123) dX5_readUnit_122 rfl rfl ?_
      refine e_bipush (pc' := 125) (z := 10) dX5_readUnit_123 rfl (by decide) ?_
      refine e_iload_n (pc' := 126) dX5_readUnit_125 rfl rfl ?_
      refine e_imul (pc' := 127) dX5_readUnit_126 rfl ?_
      refine e_iconst (pc' := 128) dX5_readUnit_127 rfl ?_
      refine e_iadd (pc' := 129) dX5_readUnit_128 rfl ?_
      refine e_putI (pc' := 132) dX5_readUnit_129 rfl f_5_34 h_14 rfl rfl rfl ?_
      refine e_iconst (pc' := 133) dX5_readUnit_132 rfl ?_
      exact e_zret dX5_readUnit_133 rfl (by decide) ⟨rfl, Nat.le_refl _⟩ (by
    have e : cuS (st, wt, br, dg, wu, fl) p c = ((st, wt, br, dg, wu, 10 * p + 3), 0) := (by unfold cuS; dsimp only; (repeat (first | (rw [if_pos (by omega)]) | (rw [if_neg (by omega)]))); try rfl)
    rw [e]
    exact ⟨_, rfl, rfl, ⟨hI.1, hI.2.1, hI.2.2.1, hI.2.2.2.1, hI.2.2.2.2.1, hI.2.2.2.2.2.1, rfl, hI.2.2.2.2.2.2.2.1, hI.2.2.2.2.2.2.2.2⟩, (by repeat (first | exact Fr.rf | assumption | (refine fr_I ?_ (by decide)) | (refine fr_J ?_ (by decide)) | (refine fr_C ?_ (by decide))))⟩)
  by_cases k2_3 : c = 45
  · refine e_lookup (pc' := 105) (off := 97) dX5_readUnit_8 ⟨by omega, by omega⟩ (by decide) (by rw [k2_3]; rfl) (by decide) ?_
    refine e_aload_n (pc' := 106) dX5_readUnit_105 rfl rfl ?_
    refine e_bipush (pc' := 108) (z := 126) dX5_readUnit_106 rfl (by decide) ?_
    refine e_cv1v (pc' := 111) dX5_readUnit_108 rfl k_5_68 h_35 rfl (Nat.le_of_ble_eq_true rfl) rfl rfl ⟨rfl, rfl⟩ ⟨Nat.zero_le _, Nat.zero_le _⟩ (s_hold_r14 n st wt br dg wu fl hI hk 126) ?_
    rintro τ2 ⟨hI2, hF2⟩
    refine e_iconst (pc' := 112) dX5_readUnit_111 rfl ?_
    exact e_zret dX5_readUnit_112 rfl (by decide) ⟨rfl, Nat.le_refl _⟩ (by
    have e : cuS (st, wt, br, dg, wu, fl) p c = ((st, adL 126 wt, br, dg, wu, fl), 1) := (by unfold cuS; dsimp only; (repeat (first | (rw [if_pos (by omega)]) | (rw [if_neg (by omega)]))); try rfl)
    rw [e]
    exact ⟨_, rfl, rfl, hI2, hF2⟩)
  by_cases k2_4 : c = 108
  · refine e_lookup (pc' := 84) (off := 76) dX5_readUnit_8 ⟨by omega, by omega⟩ (by decide) (by rw [k2_4]; rfl) (by decide) ?_
    refine e_aload_n (pc' := 85) dX5_readUnit_84 rfl rfl ?_
    refine e_iload_n (pc' := 86) dX5_readUnit_85 rfl rfl ?_
    refine e_ineg (pc' := 87) dX5_readUnit_86 rfl ?_
    refine e_cv1v (pc' := 90) dX5_readUnit_87 rfl k_5_64 h_14 rfl (Nat.le_of_ble_eq_true rfl) rfl rfl ⟨rfl, rfl⟩ ⟨Nat.zero_le _, Nat.zero_le _⟩ (s_addStep_14 n st wt br dg wu fl hI hk (-c)) ?_
    rintro τ2 ⟨hI2, hF2⟩
    refine e_aload_n (pc' := 91) dX5_readUnit_90 rfl rfl ?_
    refine e_iconst (pc' := 92) dX5_readUnit_91 rfl ?_
    refine e_putI (pc' := 95) dX5_readUnit_92 rfl f_5_25 h_35 rfl rfl rfl ?_
    refine e_iconst (pc' := 96) dX5_readUnit_95 rfl ?_
    exact e_zret dX5_readUnit_96 rfl (by decide) ⟨rfl, Nat.le_refl _⟩ (by
    have e : cuS (st, wt, br, dg, wu, fl) p c = ((adL (-c) st, wt, br, dg, 0, fl), 1) := (by unfold cuS; dsimp only; (repeat (first | (rw [if_pos (by omega)]) | (rw [if_neg (by omega)]))); try rfl)
    rw [e]
    exact ⟨_, rfl, rfl, ⟨hI2.1, hI2.2.1, hI2.2.2.1, rfl, hI2.2.2.2.2.1, hI2.2.2.2.2.2.1, hI2.2.2.2.2.2.2.1, hI2.2.2.2.2.2.2.2.1, hI2.2.2.2.2.2.2.2.2⟩, (fr_I hF2 (by decide))⟩)
  by_cases k2_5 : c = 109
  · refine e_lookup (pc' := 84) (off := 76) dX5_readUnit_8 ⟨by omega, by omega⟩ (by decide) (by rw [k2_5]; rfl) (by decide) ?_
    refine e_aload_n (pc' := 85) dX5_readUnit_84 rfl rfl ?_
    refine e_iload_n (pc' := 86) dX5_readUnit_85 rfl rfl ?_
    refine e_ineg (pc' := 87) dX5_readUnit_86 rfl ?_
    refine e_cv1v (pc' := 90) dX5_readUnit_87 rfl k_5_64 h_14 rfl (Nat.le_of_ble_eq_true rfl) rfl rfl ⟨rfl, rfl⟩ ⟨Nat.zero_le _, Nat.zero_le _⟩ (s_addStep_14 n st wt br dg wu fl hI hk (-c)) ?_
    rintro τ2 ⟨hI2, hF2⟩
    refine e_aload_n (pc' := 91) dX5_readUnit_90 rfl rfl ?_
    refine e_iconst (pc' := 92) dX5_readUnit_91 rfl ?_
    refine e_putI (pc' := 95) dX5_readUnit_92 rfl f_5_25 h_35 rfl rfl rfl ?_
    refine e_iconst (pc' := 96) dX5_readUnit_95 rfl ?_
    exact e_zret dX5_readUnit_96 rfl (by decide) ⟨rfl, Nat.le_refl _⟩ (by
    have e : cuS (st, wt, br, dg, wu, fl) p c = ((adL (-c) st, wt, br, dg, 0, fl), 1) := (by unfold cuS; dsimp only; (repeat (first | (rw [if_pos (by omega)]) | (rw [if_neg (by omega)]))); try rfl)
    rw [e]
    exact ⟨_, rfl, rfl, ⟨hI2.1, hI2.2.1, hI2.2.2.1, rfl, hI2.2.2.2.2.1, hI2.2.2.2.2.2.1, hI2.2.2.2.2.2.2.1, hI2.2.2.2.2.2.2.2.1, hI2.2.2.2.2.2.2.2.2⟩, (fr_I hF2 (by decide))⟩)
  by_cases k2_6 : c = 110
  · refine e_lookup (pc' := 84) (off := 76) dX5_readUnit_8 ⟨by omega, by omega⟩ (by decide) (by rw [k2_6]; rfl) (by decide) ?_
    refine e_aload_n (pc' := 85) dX5_readUnit_84 rfl rfl ?_
    refine e_iload_n (pc' := 86) dX5_readUnit_85 rfl rfl ?_
    refine e_ineg (pc' := 87) dX5_readUnit_86 rfl ?_
    refine e_cv1v (pc' := 90) dX5_readUnit_87 rfl k_5_64 h_14 rfl (Nat.le_of_ble_eq_true rfl) rfl rfl ⟨rfl, rfl⟩ ⟨Nat.zero_le _, Nat.zero_le _⟩ (s_addStep_14 n st wt br dg wu fl hI hk (-c)) ?_
    rintro τ2 ⟨hI2, hF2⟩
    refine e_aload_n (pc' := 91) dX5_readUnit_90 rfl rfl ?_
    refine e_iconst (pc' := 92) dX5_readUnit_91 rfl ?_
    refine e_putI (pc' := 95) dX5_readUnit_92 rfl f_5_25 h_35 rfl rfl rfl ?_
    refine e_iconst (pc' := 96) dX5_readUnit_95 rfl ?_
    exact e_zret dX5_readUnit_96 rfl (by decide) ⟨rfl, Nat.le_refl _⟩ (by
    have e : cuS (st, wt, br, dg, wu, fl) p c = ((adL (-c) st, wt, br, dg, 0, fl), 1) := (by unfold cuS; dsimp only; (repeat (first | (rw [if_pos (by omega)]) | (rw [if_neg (by omega)]))); try rfl)
    rw [e]
    exact ⟨_, rfl, rfl, ⟨hI2.1, hI2.2.1, hI2.2.2.1, rfl, hI2.2.2.2.2.1, hI2.2.2.2.2.2.1, hI2.2.2.2.2.2.2.1, hI2.2.2.2.2.2.2.2.1, hI2.2.2.2.2.2.2.2.2⟩, (fr_I hF2 (by decide))⟩)
  by_cases k2_7 : c = 114
  · refine e_lookup (pc' := 84) (off := 76) dX5_readUnit_8 ⟨by omega, by omega⟩ (by decide) (by rw [k2_7]; rfl) (by decide) ?_
    refine e_aload_n (pc' := 85) dX5_readUnit_84 rfl rfl ?_
    refine e_iload_n (pc' := 86) dX5_readUnit_85 rfl rfl ?_
    refine e_ineg (pc' := 87) dX5_readUnit_86 rfl ?_
    refine e_cv1v (pc' := 90) dX5_readUnit_87 rfl k_5_64 h_14 rfl (Nat.le_of_ble_eq_true rfl) rfl rfl ⟨rfl, rfl⟩ ⟨Nat.zero_le _, Nat.zero_le _⟩ (s_addStep_14 n st wt br dg wu fl hI hk (-c)) ?_
    rintro τ2 ⟨hI2, hF2⟩
    refine e_aload_n (pc' := 91) dX5_readUnit_90 rfl rfl ?_
    refine e_iconst (pc' := 92) dX5_readUnit_91 rfl ?_
    refine e_putI (pc' := 95) dX5_readUnit_92 rfl f_5_25 h_35 rfl rfl rfl ?_
    refine e_iconst (pc' := 96) dX5_readUnit_95 rfl ?_
    exact e_zret dX5_readUnit_96 rfl (by decide) ⟨rfl, Nat.le_refl _⟩ (by
    have e : cuS (st, wt, br, dg, wu, fl) p c = ((adL (-c) st, wt, br, dg, 0, fl), 1) := (by unfold cuS; dsimp only; (repeat (first | (rw [if_pos (by omega)]) | (rw [if_neg (by omega)]))); try rfl)
    rw [e]
    exact ⟨_, rfl, rfl, ⟨hI2.1, hI2.2.1, hI2.2.2.1, rfl, hI2.2.2.2.2.1, hI2.2.2.2.2.2.1, hI2.2.2.2.2.2.2.1, hI2.2.2.2.2.2.2.2.1, hI2.2.2.2.2.2.2.2.2⟩, (fr_I hF2 (by decide))⟩)
  by_cases k2_8 : c = 115
  · refine e_lookup (pc' := 84) (off := 76) dX5_readUnit_8 ⟨by omega, by omega⟩ (by decide) (by rw [k2_8]; rfl) (by decide) ?_
    refine e_aload_n (pc' := 85) dX5_readUnit_84 rfl rfl ?_
    refine e_iload_n (pc' := 86) dX5_readUnit_85 rfl rfl ?_
    refine e_ineg (pc' := 87) dX5_readUnit_86 rfl ?_
    refine e_cv1v (pc' := 90) dX5_readUnit_87 rfl k_5_64 h_14 rfl (Nat.le_of_ble_eq_true rfl) rfl rfl ⟨rfl, rfl⟩ ⟨Nat.zero_le _, Nat.zero_le _⟩ (s_addStep_14 n st wt br dg wu fl hI hk (-c)) ?_
    rintro τ2 ⟨hI2, hF2⟩
    refine e_aload_n (pc' := 91) dX5_readUnit_90 rfl rfl ?_
    refine e_iconst (pc' := 92) dX5_readUnit_91 rfl ?_
    refine e_putI (pc' := 95) dX5_readUnit_92 rfl f_5_25 h_35 rfl rfl rfl ?_
    refine e_iconst (pc' := 96) dX5_readUnit_95 rfl ?_
    exact e_zret dX5_readUnit_96 rfl (by decide) ⟨rfl, Nat.le_refl _⟩ (by
    have e : cuS (st, wt, br, dg, wu, fl) p c = ((adL (-c) st, wt, br, dg, 0, fl), 1) := (by unfold cuS; dsimp only; (repeat (first | (rw [if_pos (by omega)]) | (rw [if_neg (by omega)]))); try rfl)
    rw [e]
    exact ⟨_, rfl, rfl, ⟨hI2.1, hI2.2.1, hI2.2.2.1, rfl, hI2.2.2.2.2.1, hI2.2.2.2.2.2.1, hI2.2.2.2.2.2.2.1, hI2.2.2.2.2.2.2.2.1, hI2.2.2.2.2.2.2.2.2⟩, (fr_I hF2 (by decide))⟩)
  refine e_lookup (pc' := 152) (off := 144) dX5_readUnit_8 ⟨by omega, by omega⟩ (by decide) (lk_none _ _ _ (by simp only [List.mem_cons, List.not_mem_nil, or_false, forall_eq_or_imp, forall_eq, ne_eq]; omega)) (by decide) ?_
  refine e_iconst (pc' := 153) dX5_readUnit_152 rfl ?_
  exact e_zret dX5_readUnit_153 rfl (by decide) ⟨rfl, Nat.le_refl _⟩ (by
    have e : cuS (st, wt, br, dg, wu, fl) p c = ((st, wt, br, dg, wu, fl), 0) := (by unfold cuS; dsimp only; (repeat (first | (rw [if_pos (by omega)]) | (rw [if_neg (by omega)]))); try rfl)
    rw [e]
    exact ⟨_, rfl, rfl, hI, Fr.rf⟩)

set_option maxHeartbeats 4000000 in
set_option maxRecDepth 100000 in
theorem s_readBehindUnit_14 {X : AX} {d : Nat} {σ : SG} (n : Int) (st wt : List Int) (br dg wu fl : Int) (hI : RsI σ 14 n (st, wt, br, dg, wu, fl)) (hk : rsOK (st, wt, br, dg, wu, fl)) (c : Int) (hcc : chr7 c) : Ev X 0 0 (d + 3) mX5_readBehindUnit 0 [some (rv 35), some (rv 14), some (iv c), none] [] σ (QI (fun v σ' => v = (buS (st, wt, br, dg, wu, fl) c).2 ∧ RsI σ' 14 n (buS (st, wt, br, dg, wu, fl) c).1 ∧ Fr [35, 36, 14, 16] σ σ')) := by
  obtain ⟨hk1, hk2, hk3, hk4, hk5, hk6, hk7⟩ := id hk
  simp only at hk1 hk2 hk3 hk4 hk5 hk6 hk7
  obtain ⟨hc1, hc2⟩ := id hcc
  refine e_iload_n (pc' := 1) dX5_readBehindUnit_0 rfl rfl ?_
  refine e_bipush (pc' := 3) (z := 41) dX5_readBehindUnit_1 rfl (by decide) ?_
  refine e_icmpI (pc' := 6) (t := 12) dX5_readBehindUnit_3 (by decide) rfl ⟨by omega, by omega⟩ ⟨by omega, by omega⟩ (fun (c2_1 : (c : Int) ≠ 41) => ?_) (fun (c2_1 : ¬ ((c : Int) ≠ 41)) => ?_)
  · refine e_iload_n (pc' := 13) dX5_readBehindUnit_12 rfl rfl ?_
    refine e_cs1i (pc' := 16) dX5_readBehindUnit_13 rfl pn_5_75 k_5_75 (Nat.le_of_ble_eq_true rfl) rfl rfl ⟨rfl, rfl⟩ ⟨Nat.zero_le _, Nat.zero_le _⟩ (s_rankOf c ⟨by omega, by omega⟩) ?_
    intro r σ' hr; rw [hr.1, hr.2]; clear hr
    have hrk := rkS_rg c
    refine e_istore_n (pc' := 17) (L' := [some (rv 35), some (rv 14), some (iv c), some (iv (rkS c))]) dX5_readBehindUnit_16 rfl (by decide) rfl ?_
    refine e_iload_n (pc' := 18) dX5_readBehindUnit_17 rfl rfl ?_
    refine e_ifI (pc' := 21) (t := 27) dX5_readBehindUnit_18 (by decide) rfl ⟨by omega, by omega⟩ (fun (c4_2 : ((rkS c) : Int) = 0) => ?_) (fun (c4_2 : ¬ (((rkS c) : Int) = 0)) => ?_)
    · refine e_iconst (pc' := 28) dX5_readBehindUnit_27 rfl ?_
      exact e_zret dX5_readBehindUnit_28 rfl (by decide) ⟨rfl, Nat.le_refl _⟩ (by
    have e : buS (st, wt, br, dg, wu, fl) c = ((st, wt, br, dg, wu, fl), 0) := (by unfold buS; (repeat (first | (rw [if_pos (by omega)]) | (rw [if_neg (by omega)]))))
    rw [e]
    exact ⟨_, rfl, rfl, hI, Fr.rf⟩)
    · refine e_iload_n (pc' := 22) dX5_readBehindUnit_21 rfl rfl ?_
      refine e_bipush (pc' := 24) (z := 6) dX5_readBehindUnit_22 rfl (by decide) ?_
      refine e_icmpI (pc' := 27) (t := 29) dX5_readBehindUnit_24 (by decide) rfl ⟨by omega, by omega⟩ ⟨by omega, by omega⟩ (fun (c6_3 : ((rkS c) : Int) ≠ 6) => ?_) (fun (c6_3 : ¬ (((rkS c) : Int) ≠ 6)) => ?_)
      · refine e_aload_n (pc' := 30) dX5_readBehindUnit_29 rfl rfl ?_
        refine e_aload_n (pc' := 31) dX5_readBehindUnit_30 rfl rfl ?_
        refine e_iload_n (pc' := 32) dX5_readBehindUnit_31 rfl rfl ?_
        refine e_iconst (pc' := 33) dX5_readBehindUnit_32 rfl ?_
        refine e_icmpI (pc' := 36) (t := 42) dX5_readBehindUnit_33 (by decide) rfl ⟨by omega, by omega⟩ ⟨by omega, by omega⟩ (fun (c8_4 : ((rkS c) : Int) ≠ 3) => ?_) (fun (c8_4 : ¬ (((rkS c) : Int) ≠ 3)) => ?_)
        · refine e_iload_n (pc' := 43) dX5_readBehindUnit_42 rfl rfl ?_
          refine e_cv2v (pc' := 46) dX5_readBehindUnit_43 rfl k_5_44 h_35 rfl (Nat.le_of_ble_eq_true rfl) rfl rfl ⟨rfl, rfl⟩ ⟨Nat.zero_le _, Nat.zero_le _⟩ (s_release_14 n br dg wu fl (rkS c) ⟨by omega, by omega⟩ wt st _ hI hk) ?_
          rintro τ2 ⟨hI2, hF2⟩
          have hro := rlS_ok (rkS c) wt st hk1 hk2 hk7
          have hk2' : rsOK ((rlS (rkS c) wt st).2, (rlS (rkS c) wt st).1, br, dg, wu, fl) := ⟨hro.1, hro.2.1, hk3, hk4, hk5, hk6, hro.2.2⟩
          refine e_iload_n (pc' := 47) dX5_readBehindUnit_46 rfl rfl ?_
          refine e_iconst (pc' := 48) dX5_readBehindUnit_47 rfl ?_
          refine e_icmpI (pc' := 51) (t := 61) dX5_readBehindUnit_48 (by decide) rfl ⟨by omega, by omega⟩ ⟨by omega, by omega⟩ (fun (c10_5 : ((rkS c) : Int) ≠ 3) => ?_) (fun (c10_5 : ¬ (((rkS c) : Int) ≠ 3)) => ?_)
          · refine e_aload_n (pc' := 62) dX5_readBehindUnit_61 rfl rfl ?_
            refine e_iload_n (pc' := 63) dX5_readBehindUnit_62 rfl rfl ?_
            refine e_cv1v (pc' := 66) dX5_readBehindUnit_63 rfl k_5_68 h_35 rfl (Nat.le_of_ble_eq_true rfl) rfl rfl ⟨rfl, rfl⟩ ⟨Nat.zero_le _, Nat.zero_le _⟩ (s_hold_r14 n (rlS (rkS c) wt st).2 (rlS (rkS c) wt st).1 br dg wu fl hI2 hk2' c) ?_
            rintro τ3 ⟨hI3, hF3⟩
            refine e_aload_n (pc' := 67) dX5_readBehindUnit_66 rfl rfl ?_
            refine e_iconst (pc' := 68) dX5_readBehindUnit_67 rfl ?_
            refine e_putI (pc' := 71) dX5_readBehindUnit_68 rfl f_5_25 h_35 rfl rfl rfl ?_
            refine e_iconst (pc' := 72) dX5_readBehindUnit_71 rfl ?_
            exact e_zret dX5_readBehindUnit_72 rfl (by decide) ⟨rfl, Nat.le_refl _⟩ (by first | (exfalso; omega) | (have ek : krS c = (rkS c) := (by unfold krS; split <;> omega); have e : buS (st, wt, br, dg, wu, fl) c = (((rlS (rkS c) wt st).2, adL c (rlS (rkS c) wt st).1, br, dg, 1, fl), 1) := (by unfold buS; dsimp only; rw [ek]; (repeat (first | (rw [if_pos (by omega)]) | (rw [if_neg (by omega)]))); try rfl); rw [e]; exact ⟨_, rfl, rfl, ⟨hI3.1, hI3.2.1, hI3.2.2.1, rfl, hI3.2.2.2.2.1, hI3.2.2.2.2.2.1, hI3.2.2.2.2.2.2.1, hI3.2.2.2.2.2.2.2.1, hI3.2.2.2.2.2.2.2.2⟩, (fr_I (hF2.tr hF3) (by decide))⟩))
          · refine e_aload_n (pc' := 52) dX5_readBehindUnit_51 rfl rfl ?_
            refine e_cv0i (pc' := 55) dX5_readBehindUnit_52 rfl k_5_79 h_35 rfl (Nat.le_of_ble_eq_true rfl) rfl rfl ⟨rfl, rfl⟩ ⟨Nat.zero_le _, Nat.zero_le _⟩ (s_lastRank_14 n (rlS (rkS c) wt st).2 (rlS (rkS c) wt st).1 br dg wu fl hI2 hk2') ?_
            intro v3 σ' hr; rw [hr.1, hr.2]; clear hr
            have hlr : 0 ≤ lrS (rlS (rkS c) wt st).1 ∧ lrS (rlS (rkS c) wt st).1 ≤ 6 := lrS_rg _
            refine e_iconst (pc' := 56) dX5_readBehindUnit_55 rfl ?_
            refine e_icmpI (pc' := 59) (t := 61) dX5_readBehindUnit_56 (by decide) rfl ⟨by omega, by omega⟩ ⟨by omega, by omega⟩ (fun (c12_6 : ((lrS (rlS (rkS c) wt st).1) : Int) ≠ 3) => ?_) (fun (c12_6 : ¬ (((lrS (rlS (rkS c) wt st).1) : Int) ≠ 3)) => ?_)
            · refine e_aload_n (pc' := 62) dX5_readBehindUnit_61 rfl rfl ?_
              refine e_iload_n (pc' := 63) dX5_readBehindUnit_62 rfl rfl ?_
              refine e_cv1v (pc' := 66) dX5_readBehindUnit_63 rfl k_5_68 h_35 rfl (Nat.le_of_ble_eq_true rfl) rfl rfl ⟨rfl, rfl⟩ ⟨Nat.zero_le _, Nat.zero_le _⟩ (s_hold_r14 n (rlS (rkS c) wt st).2 (rlS (rkS c) wt st).1 br dg wu fl hI2 hk2' c) ?_
              rintro τ3 ⟨hI3, hF3⟩
              refine e_aload_n (pc' := 67) dX5_readBehindUnit_66 rfl rfl ?_
              refine e_iconst (pc' := 68) dX5_readBehindUnit_67 rfl ?_
              refine e_putI (pc' := 71) dX5_readBehindUnit_68 rfl f_5_25 h_35 rfl rfl rfl ?_
              refine e_iconst (pc' := 72) dX5_readBehindUnit_71 rfl ?_
              exact e_zret dX5_readBehindUnit_72 rfl (by decide) ⟨rfl, Nat.le_refl _⟩ (by first | (exfalso; omega) | (have ek : krS c = (rkS c) := (by unfold krS; split <;> omega); have e : buS (st, wt, br, dg, wu, fl) c = (((rlS (rkS c) wt st).2, adL c (rlS (rkS c) wt st).1, br, dg, 1, fl), 1) := (by unfold buS; dsimp only; rw [ek]; (repeat (first | (rw [if_pos (by omega)]) | (rw [if_neg (by omega)]))); try rfl); rw [e]; exact ⟨_, rfl, rfl, ⟨hI3.1, hI3.2.1, hI3.2.2.1, rfl, hI3.2.2.2.2.1, hI3.2.2.2.2.2.1, hI3.2.2.2.2.2.2.1, hI3.2.2.2.2.2.2.2.1, hI3.2.2.2.2.2.2.2.2⟩, (fr_I (hF2.tr hF3) (by decide))⟩))
            · refine e_iconst (pc' := 60) dX5_readBehindUnit_59 rfl ?_
              exact e_zret dX5_readBehindUnit_60 rfl (by decide) ⟨rfl, Nat.le_refl _⟩ (by first | (exfalso; omega) | (have ek : krS c = (rkS c) := (by unfold krS; split <;> omega); have e : buS (st, wt, br, dg, wu, fl) c = (((rlS (rkS c) wt st).2, (rlS (rkS c) wt st).1, br, dg, wu, fl), 0) := (by unfold buS; dsimp only; rw [ek]; (repeat (first | (rw [if_pos (by omega)]) | (rw [if_neg (by omega)]))); try rfl); rw [e]; exact ⟨_, rfl, rfl, hI2, hF2⟩))
        · refine e_iload_n (pc' := 37) dX5_readBehindUnit_36 rfl rfl ?_
          refine e_iconst (pc' := 38) dX5_readBehindUnit_37 rfl ?_
          refine e_iadd (pc' := 39) dX5_readBehindUnit_38 rfl ?_
          refine e_goto (pc' := 43) dX5_readBehindUnit_39 (by decide) ?_
          refine e_cv2v (pc' := 46) dX5_readBehindUnit_43 rfl k_5_44 h_35 rfl (Nat.le_of_ble_eq_true rfl) rfl rfl ⟨rfl, rfl⟩ ⟨Nat.zero_le _, Nat.zero_le _⟩ (s_release_14 n br dg wu fl ((rkS c) + 1) ⟨by omega, by omega⟩ wt st _ hI hk) ?_
          rintro τ2 ⟨hI2, hF2⟩
          have hro := rlS_ok ((rkS c) + 1) wt st hk1 hk2 hk7
          have hk2' : rsOK ((rlS ((rkS c) + 1) wt st).2, (rlS ((rkS c) + 1) wt st).1, br, dg, wu, fl) := ⟨hro.1, hro.2.1, hk3, hk4, hk5, hk6, hro.2.2⟩
          refine e_iload_n (pc' := 47) dX5_readBehindUnit_46 rfl rfl ?_
          refine e_iconst (pc' := 48) dX5_readBehindUnit_47 rfl ?_
          refine e_icmpI (pc' := 51) (t := 61) dX5_readBehindUnit_48 (by decide) rfl ⟨by omega, by omega⟩ ⟨by omega, by omega⟩ (fun (c10_5 : ((rkS c) : Int) ≠ 3) => ?_) (fun (c10_5 : ¬ (((rkS c) : Int) ≠ 3)) => ?_)
          · refine e_aload_n (pc' := 62) dX5_readBehindUnit_61 rfl rfl ?_
            refine e_iload_n (pc' := 63) dX5_readBehindUnit_62 rfl rfl ?_
            refine e_cv1v (pc' := 66) dX5_readBehindUnit_63 rfl k_5_68 h_35 rfl (Nat.le_of_ble_eq_true rfl) rfl rfl ⟨rfl, rfl⟩ ⟨Nat.zero_le _, Nat.zero_le _⟩ (s_hold_r14 n (rlS ((rkS c) + 1) wt st).2 (rlS ((rkS c) + 1) wt st).1 br dg wu fl hI2 hk2' c) ?_
            rintro τ3 ⟨hI3, hF3⟩
            refine e_aload_n (pc' := 67) dX5_readBehindUnit_66 rfl rfl ?_
            refine e_iconst (pc' := 68) dX5_readBehindUnit_67 rfl ?_
            refine e_putI (pc' := 71) dX5_readBehindUnit_68 rfl f_5_25 h_35 rfl rfl rfl ?_
            refine e_iconst (pc' := 72) dX5_readBehindUnit_71 rfl ?_
            exact e_zret dX5_readBehindUnit_72 rfl (by decide) ⟨rfl, Nat.le_refl _⟩ (by first | (exfalso; omega) | (have ek : krS c = ((rkS c) + 1) := (by unfold krS; split <;> omega); have e : buS (st, wt, br, dg, wu, fl) c = (((rlS ((rkS c) + 1) wt st).2, adL c (rlS ((rkS c) + 1) wt st).1, br, dg, 1, fl), 1) := (by unfold buS; dsimp only; rw [ek]; (repeat (first | (rw [if_pos (by omega)]) | (rw [if_neg (by omega)]))); try rfl); rw [e]; exact ⟨_, rfl, rfl, ⟨hI3.1, hI3.2.1, hI3.2.2.1, rfl, hI3.2.2.2.2.1, hI3.2.2.2.2.2.1, hI3.2.2.2.2.2.2.1, hI3.2.2.2.2.2.2.2.1, hI3.2.2.2.2.2.2.2.2⟩, (fr_I (hF2.tr hF3) (by decide))⟩))
          · refine e_aload_n (pc' := 52) dX5_readBehindUnit_51 rfl rfl ?_
            refine e_cv0i (pc' := 55) dX5_readBehindUnit_52 rfl k_5_79 h_35 rfl (Nat.le_of_ble_eq_true rfl) rfl rfl ⟨rfl, rfl⟩ ⟨Nat.zero_le _, Nat.zero_le _⟩ (s_lastRank_14 n (rlS ((rkS c) + 1) wt st).2 (rlS ((rkS c) + 1) wt st).1 br dg wu fl hI2 hk2') ?_
            intro v3 σ' hr; rw [hr.1, hr.2]; clear hr
            have hlr : 0 ≤ lrS (rlS ((rkS c) + 1) wt st).1 ∧ lrS (rlS ((rkS c) + 1) wt st).1 ≤ 6 := lrS_rg _
            refine e_iconst (pc' := 56) dX5_readBehindUnit_55 rfl ?_
            refine e_icmpI (pc' := 59) (t := 61) dX5_readBehindUnit_56 (by decide) rfl ⟨by omega, by omega⟩ ⟨by omega, by omega⟩ (fun (c12_6 : ((lrS (rlS ((rkS c) + 1) wt st).1) : Int) ≠ 3) => ?_) (fun (c12_6 : ¬ (((lrS (rlS ((rkS c) + 1) wt st).1) : Int) ≠ 3)) => ?_)
            · refine e_aload_n (pc' := 62) dX5_readBehindUnit_61 rfl rfl ?_
              refine e_iload_n (pc' := 63) dX5_readBehindUnit_62 rfl rfl ?_
              refine e_cv1v (pc' := 66) dX5_readBehindUnit_63 rfl k_5_68 h_35 rfl (Nat.le_of_ble_eq_true rfl) rfl rfl ⟨rfl, rfl⟩ ⟨Nat.zero_le _, Nat.zero_le _⟩ (s_hold_r14 n (rlS ((rkS c) + 1) wt st).2 (rlS ((rkS c) + 1) wt st).1 br dg wu fl hI2 hk2' c) ?_
              rintro τ3 ⟨hI3, hF3⟩
              refine e_aload_n (pc' := 67) dX5_readBehindUnit_66 rfl rfl ?_
              refine e_iconst (pc' := 68) dX5_readBehindUnit_67 rfl ?_
              refine e_putI (pc' := 71) dX5_readBehindUnit_68 rfl f_5_25 h_35 rfl rfl rfl ?_
              refine e_iconst (pc' := 72) dX5_readBehindUnit_71 rfl ?_
              exact e_zret dX5_readBehindUnit_72 rfl (by decide) ⟨rfl, Nat.le_refl _⟩ (by first | (exfalso; omega) | (have ek : krS c = ((rkS c) + 1) := (by unfold krS; split <;> omega); have e : buS (st, wt, br, dg, wu, fl) c = (((rlS ((rkS c) + 1) wt st).2, adL c (rlS ((rkS c) + 1) wt st).1, br, dg, 1, fl), 1) := (by unfold buS; dsimp only; rw [ek]; (repeat (first | (rw [if_pos (by omega)]) | (rw [if_neg (by omega)]))); try rfl); rw [e]; exact ⟨_, rfl, rfl, ⟨hI3.1, hI3.2.1, hI3.2.2.1, rfl, hI3.2.2.2.2.1, hI3.2.2.2.2.2.1, hI3.2.2.2.2.2.2.1, hI3.2.2.2.2.2.2.2.1, hI3.2.2.2.2.2.2.2.2⟩, (fr_I (hF2.tr hF3) (by decide))⟩))
            · refine e_iconst (pc' := 60) dX5_readBehindUnit_59 rfl ?_
              exact e_zret dX5_readBehindUnit_60 rfl (by decide) ⟨rfl, Nat.le_refl _⟩ (by first | (exfalso; omega) | (have ek : krS c = ((rkS c) + 1) := (by unfold krS; split <;> omega); have e : buS (st, wt, br, dg, wu, fl) c = (((rlS ((rkS c) + 1) wt st).2, (rlS ((rkS c) + 1) wt st).1, br, dg, wu, fl), 0) := (by unfold buS; dsimp only; rw [ek]; (repeat (first | (rw [if_pos (by omega)]) | (rw [if_neg (by omega)]))); try rfl); rw [e]; exact ⟨_, rfl, rfl, hI2, hF2⟩))
      · refine e_iconst (pc' := 28) dX5_readBehindUnit_27 rfl ?_
        exact e_zret dX5_readBehindUnit_28 rfl (by decide) ⟨rfl, Nat.le_refl _⟩ (by
    have e : buS (st, wt, br, dg, wu, fl) c = ((st, wt, br, dg, wu, fl), 0) := (by unfold buS; (repeat (first | (rw [if_pos (by omega)]) | (rw [if_neg (by omega)]))))
    rw [e]
    exact ⟨_, rfl, rfl, hI, Fr.rf⟩)
  · refine e_aload_n (pc' := 7) dX5_readBehindUnit_6 rfl rfl ?_
    refine e_aload_n (pc' := 8) dX5_readBehindUnit_7 rfl rfl ?_
    refine e_cv1i (pc' := 11) dX5_readBehindUnit_8 rfl k_5_71 h_35 rfl (Nat.le_of_ble_eq_true rfl) rfl rfl ⟨rfl, rfl⟩ ⟨Nat.zero_le _, Nat.zero_le _⟩ (s_closeBracket_14 n st wt br dg wu fl hI hk) ?_
    rintro v2 τ2 ⟨hv2, hI2, hF2⟩
    exact e_zret dX5_readBehindUnit_11 rfl (by rw [hv2]; exact (cbS_ok hk).2) ⟨rfl, Nat.le_refl _⟩ (by
    have e : buS (st, wt, br, dg, wu, fl) c = cbS (st, wt, br, dg, wu, fl) := (by unfold buS; rw [if_pos (by omega)])
    rw [e]
    exact ⟨_, rfl, hv2, hI2, hF2⟩)
