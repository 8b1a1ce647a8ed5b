set_option maxHeartbeats 4000000 in
set_option maxRecDepth 100000 in
theorem l_toldBy_8 {X : AX} {d : Nat} {σ : SG} (t : ST) (hS : SgI σ t) (hr1 : rg t.1) (hr2 : rg t.2.1) (hr3 : rg t.2.2.1) (hr4 : rg t.2.2.2.1) (hfl : rg (σ.1 8 4)) (hn : 0 ≤ (σ.1 8 3) ∧ (σ.1 8 3) ≤ 40) (hst : ∀ j, 0 ≤ j → j < (σ.1 8 3) → -1000 ≤ (σ.1 10) j ∧ (σ.1 10) j ≤ 999999) (hf1 : σ.1 8 4 = -1) : ∀ (k : Nat) (i : Int) (τ : SG) (x : Option AV), 0 ≤ i → i ≤ (σ.1 8 3) → (σ.1 8 3) - i < k → StI τ (evI t (σ.1 10) i) → SgI τ t → Fr [37, 38] σ τ → Ev X 0 0 (d + 2) mX9_toldBy 17 [some (rv 37), some (rv 8), some (iv i), x] [] τ (QI (fun v σ' => v = tlS t (σ.1 8 4) (σ.1 10) (σ.1 8 3) ∧ Fr [37, 38] σ σ')) := by
  intro k
  induction k with
  | zero => intros; omega
  | succ k ih =>
  intro i τ x hi0 hi1 hik hT1 hS1 hF1
  refine e_iload_n (pc' := 18) dX9_toldBy_17 rfl rfl ?_
  refine e_aload_n (pc' := 19) dX9_toldBy_18 rfl rfl ?_
  refine e_getI (pc' := 22) (v := (σ.1 8 3)) dX9_toldBy_19 rfl f_9_68 h_8 rfl ((congrFun (hF1 8 (by decide)).1 3).trans rfl) ?_
  refine e_icmpI (pc' := 25) (t := 57) dX9_toldBy_22 (by decide) rfl ⟨by omega, by omega⟩ ⟨by omega, by omega⟩ (fun (c2_1 : (σ.1 8 3) ≤ (i : Int)) => ?_) (fun (c2_1 : ¬ ((σ.1 8 3) ≤ (i : Int))) => ?_)
  · refine e_lconst (pc' := 58) (z := 0) dX9_toldBy_57 rfl rfl ?_
    refine e_ldc2 (pc' := 61) dX9_toldBy_58 rfl c_9_81 ?_
    refine e_aload_n (pc' := 62) dX9_toldBy_61 rfl rfl ?_
    refine e_cv0j (pc' := 65) dX9_toldBy_62 rfl k_9_83 h_37 rfl (Nat.le_of_ble_eq_true rfl) rfl rfl ⟨rfl, rfl⟩ ⟨Nat.zero_le _, Nat.zero_le _⟩ (s_pop t (evI t (σ.1 10) i) hS1 hT1) ?_
    rintro v2 τ2 ⟨rfl, hT2, hS2, hF2⟩
    refine e_minl (pc' := 68) dX9_toldBy_65 rfl p_9_87 (Nat.le_of_ble_eq_true rfl) ⟨Nat.zero_le _, Nat.zero_le _⟩ ?_
    refine e_maxl (pc' := 71) dX9_toldBy_68 rfl p_9_90 (Nat.le_of_ble_eq_true rfl) ⟨Nat.zero_le _, Nat.zero_le _⟩ ?_
    refine e_l2i (pc' := 72) dX9_toldBy_71 rfl ?_
    exact e_iret dX9_toldBy_72 rfl ⟨rfl, Nat.le_refl _⟩ ⟨_, rfl, by unfold tlS; rw [if_pos hf1, show (σ.1 8 3) = i by omega]; rfl, hF1.tr hF2⟩
  · have hj := hst i (by omega) (by omega)
    refine e_aload_n (pc' := 26) dX9_toldBy_25 rfl rfl ?_
    refine e_getR (pc' := 29) dX9_toldBy_26 rfl f_9_71 h_8 rfl ?_
    refine e_iload_n (pc' := 30) dX9_toldBy_29 rfl rfl ?_
    refine e_iald (pc' := 31) (v := (σ.1 10 i)) dX9_toldBy_30 rfl h_10 (by decide) (by omega) (by omega) ((congrFun (hF1 10 (by decide)).1 i).trans rfl) ?_
    refine e_istore_n (pc' := 32) (L' := [some (rv 37), some (rv 8), some (iv i), some (iv (σ.1 10 i))]) dX9_toldBy_31 rfl (by decide) rfl ?_
    refine e_iload_n (pc' := 33) dX9_toldBy_32 rfl rfl ?_
    refine e_ifI (pc' := 36) (t := 45) dX9_toldBy_33 (by decide) rfl ⟨by omega, by omega⟩ (fun (c4_2 : ((σ.1 10 i) : Int) < 0) => ?_) (fun (c4_2 : ¬ (((σ.1 10 i) : Int) < 0)) => ?_)
    · refine e_aload_n (pc' := 46) dX9_toldBy_45 rfl rfl ?_
      refine e_iload_n (pc' := 47) dX9_toldBy_46 rfl rfl ?_
      refine e_ineg (pc' := 48) dX9_toldBy_47 rfl ?_
      refine e_cv1v (pc' := 51) dX9_toldBy_48 rfl k_9_78 h_37 rfl (Nat.le_of_ble_eq_true rfl) rfl rfl ⟨rfl, rfl⟩ ⟨Nat.zero_le _, Nat.zero_le _⟩ (s_doStep t (evI t (σ.1 10) i) hS1 hT1 (-(σ.1 10 i)) ⟨by omega, by omega⟩ hr1 hr2 hr3 hr4) ?_
      rintro τ2 ⟨hT2, hS2, hF2⟩
      refine e_iinc (pc' := 54) (L' := [some (rv 37), some (rv 8), some (iv (i + 1)), some (iv (σ.1 10 i))]) dX9_toldBy_51 rfl rfl (by decide) rfl ?_
      refine e_goto (pc' := 17) dX9_toldBy_54 (by decide) ?_
      exact ih _ _ _ (by omega) (by omega) (by omega) (by rw [evI_s _ _ (by omega)]; first | (rw [if_pos (by omega)]; exact hT2) | (rw [if_neg (by omega)]; exact hT2)) hS2 (hF1.tr hF2)
    · refine e_aload_n (pc' := 37) dX9_toldBy_36 rfl rfl ?_
      refine e_iload_n (pc' := 38) dX9_toldBy_37 rfl rfl ?_
      refine e_i2l (pc' := 39) dX9_toldBy_38 rfl ⟨by omega, by omega⟩ ?_
      refine e_cv1v (pc' := 42) dX9_toldBy_39 rfl k_9_74 h_37 rfl (Nat.le_of_ble_eq_true rfl) rfl rfl ⟨rfl, rfl⟩ ⟨Nat.zero_le _, Nat.zero_le _⟩ (s_push t (evI t (σ.1 10) i) hS1 hT1 (Int64.ofInt (σ.1 10 i))) ?_
      rintro τ2 ⟨hT2, hS2, hF2⟩
      refine e_goto (pc' := 51) dX9_toldBy_42 (by decide) ?_
      refine e_iinc (pc' := 54) (L' := [some (rv 37), some (rv 8), some (iv (i + 1)), some (iv (σ.1 10 i))]) dX9_toldBy_51 rfl rfl (by decide) rfl ?_
      refine e_goto (pc' := 17) dX9_toldBy_54 (by decide) ?_
      exact ih _ _ _ (by omega) (by omega) (by omega) (by rw [evI_s _ _ (by omega)]; first | (rw [if_pos (by omega)]; exact hT2) | (rw [if_neg (by omega)]; exact hT2)) hS2 (hF1.tr hF2)

set_option maxHeartbeats 4000000 in
set_option maxRecDepth 100000 in
theorem s_toldBy_8 {X : AX} {d : Nat} {σ : SG} (t : ST) (hS : SgI σ t) (hr1 : rg t.1) (hr2 : rg t.2.1) (hr3 : rg t.2.2.1) (hr4 : rg t.2.2.2.1) (hfl : rg (σ.1 8 4)) (hn : 0 ≤ (σ.1 8 3) ∧ (σ.1 8 3) ≤ 40) (hst : ∀ j, 0 ≤ j → j < (σ.1 8 3) → -1000 ≤ (σ.1 10) j ∧ (σ.1 10) j ≤ 999999) : Ev X 0 0 (d + 2) mX9_toldBy 0 [some (rv 37), some (rv 8), none, none] [] σ (QI (fun v σ' => v = tlS t (σ.1 8 4) (σ.1 10) (σ.1 8 3) ∧ Fr [37, 38] σ σ')) := by
  obtain ⟨hfl1, hfl2⟩ := hfl
  refine e_aload_n (pc' := 1) dX9_toldBy_0 rfl rfl ?_
  refine e_getI (pc' := 4) (v := (σ.1 8 4)) dX9_toldBy_1 rfl f_9_60 h_8 rfl rfl ?_
  refine e_iconst (pc' := 5) dX9_toldBy_4 rfl ?_
  refine e_icmpI (pc' := 8) (t := 10) dX9_toldBy_5 (by decide) rfl ⟨by omega, by omega⟩ ⟨by omega, by omega⟩ (fun (c2_1 : ((σ.1 8 4) : Int) = (-1)) => ?_) (fun (c2_1 : ¬ (((σ.1 8 4) : Int) = (-1))) => ?_)
  · refine e_aload_n (pc' := 11) dX9_toldBy_10 rfl rfl ?_
    refine e_iconst (pc' := 12) dX9_toldBy_11 rfl ?_
    refine e_putI (pc' := 15) dX9_toldBy_12 rfl f_9_65 h_37 rfl rfl rfl ?_
    refine e_iconst (pc' := 16) dX9_toldBy_15 rfl ?_
    refine e_istore_n (pc' := 17) (L' := [some (rv 37), some (rv 8), some (iv 0), none]) dX9_toldBy_16 rfl (by decide) rfl ?_
    exact l_toldBy_8 t hS hr1 hr2 hr3 hr4 ⟨hfl1, hfl2⟩ hn hst (by omega) (σ.1 8 3 + 1).toNat _ _ _ (by omega) (by omega) (by omega) ⟨rfl, trivial, Nat.zero_le _⟩ hS (fr_I Fr.rf (by decide))
  · refine e_iconst (pc' := 9) dX9_toldBy_8 rfl ?_
    exact e_iret dX9_toldBy_9 rfl ⟨rfl, Nat.le_refl _⟩ ⟨_, rfl, by unfold tlS; rw [if_neg (by omega)], Fr.rf⟩

set_option maxHeartbeats 4000000 in
set_option maxRecDepth 100000 in
theorem l_toldBy_11 {X : AX} {d : Nat} {σ : SG} (t : ST) (hS : SgI σ t) (hr1 : rg t.1) (hr2 : rg t.2.1) (hr3 : rg t.2.2.1) (hr4 : rg t.2.2.2.1) (hfl : rg (σ.1 11 4)) (hn : 0 ≤ (σ.1 11 3) ∧ (σ.1 11 3) ≤ 40) (hst : ∀ j, 0 ≤ j → j < (σ.1 11 3) → -1000 ≤ (σ.1 13) j ∧ (σ.1 13) j ≤ 999999) (hf1 : σ.1 11 4 = -1) : ∀ (k : Nat) (i : Int) (τ : SG) (x : Option AV), 0 ≤ i → i ≤ (σ.1 11 3) → (σ.1 11 3) - i < k → StI τ (evI t (σ.1 13) i) → SgI τ t → Fr [37, 38] σ τ → Ev X 0 0 (d + 2) mX9_toldBy 17 [some (rv 37), some (rv 11), some (iv i), x] [] τ (QI (fun v σ' => v = tlS t (σ.1 11 4) (σ.1 13) (σ.1 11 3) ∧ Fr [37, 38] σ σ')) := by
  intro k
  induction k with
  | zero => intros; omega
  | succ k ih =>
  intro i τ x hi0 hi1 hik hT1 hS1 hF1
  refine e_iload_n (pc' := 18) dX9_toldBy_17 rfl rfl ?_
  refine e_aload_n (pc' := 19) dX9_toldBy_18 rfl rfl ?_
  refine e_getI (pc' := 22) (v := (σ.1 11 3)) dX9_toldBy_19 rfl f_9_68 h_11 rfl ((congrFun (hF1 11 (by decide)).1 3).trans rfl) ?_
  refine e_icmpI (pc' := 25) (t := 57) dX9_toldBy_22 (by decide) rfl ⟨by omega, by omega⟩ ⟨by omega, by omega⟩ (fun (c2_1 : (σ.1 11 3) ≤ (i : Int)) => ?_) (fun (c2_1 : ¬ ((σ.1 11 3) ≤ (i : Int))) => ?_)
  · refine e_lconst (pc' := 58) (z := 0) dX9_toldBy_57 rfl rfl ?_
    refine e_ldc2 (pc' := 61) dX9_toldBy_58 rfl c_9_81 ?_
    refine e_aload_n (pc' := 62) dX9_toldBy_61 rfl rfl ?_
    refine e_cv0j (pc' := 65) dX9_toldBy_62 rfl k_9_83 h_37 rfl (Nat.le_of_ble_eq_true rfl) rfl rfl ⟨rfl, rfl⟩ ⟨Nat.zero_le _, Nat.zero_le _⟩ (s_pop t (evI t (σ.1 13) i) hS1 hT1) ?_
    rintro v2 τ2 ⟨rfl, hT2, hS2, hF2⟩
    refine e_minl (pc' := 68) dX9_toldBy_65 rfl p_9_87 (Nat.le_of_ble_eq_true rfl) ⟨Nat.zero_le _, Nat.zero_le _⟩ ?_
    refine e_maxl (pc' := 71) dX9_toldBy_68 rfl p_9_90 (Nat.le_of_ble_eq_true rfl) ⟨Nat.zero_le _, Nat.zero_le _⟩ ?_
    refine e_l2i (pc' := 72) dX9_toldBy_71 rfl ?_
    exact e_iret dX9_toldBy_72 rfl ⟨rfl, Nat.le_refl _⟩ ⟨_, rfl, by unfold tlS; rw [if_pos hf1, show (σ.1 11 3) = i by omega]; rfl, hF1.tr hF2⟩
  · have hj := hst i (by omega) (by omega)
    refine e_aload_n (pc' := 26) dX9_toldBy_25 rfl rfl ?_
    refine e_getR (pc' := 29) dX9_toldBy_26 rfl f_9_71 h_11 rfl ?_
    refine e_iload_n (pc' := 30) dX9_toldBy_29 rfl rfl ?_
    refine e_iald (pc' := 31) (v := (σ.1 13 i)) dX9_toldBy_30 rfl h_13 (by decide) (by omega) (by omega) ((congrFun (hF1 13 (by decide)).1 i).trans rfl) ?_
    refine e_istore_n (pc' := 32) (L' := [some (rv 37), some (rv 11), some (iv i), some (iv (σ.1 13 i))]) dX9_toldBy_31 rfl (by decide) rfl ?_
    refine e_iload_n (pc' := 33) dX9_toldBy_32 rfl rfl ?_
    refine e_ifI (pc' := 36) (t := 45) dX9_toldBy_33 (by decide) rfl ⟨by omega, by omega⟩ (fun (c4_2 : ((σ.1 13 i) : Int) < 0) => ?_) (fun (c4_2 : ¬ (((σ.1 13 i) : Int) < 0)) => ?_)
    · refine e_aload_n (pc' := 46) dX9_toldBy_45 rfl rfl ?_
      refine e_iload_n (pc' := 47) dX9_toldBy_46 rfl rfl ?_
      refine e_ineg (pc' := 48) dX9_toldBy_47 rfl ?_
      refine e_cv1v (pc' := 51) dX9_toldBy_48 rfl k_9_78 h_37 rfl (Nat.le_of_ble_eq_true rfl) rfl rfl ⟨rfl, rfl⟩ ⟨Nat.zero_le _, Nat.zero_le _⟩ (s_doStep t (evI t (σ.1 13) i) hS1 hT1 (-(σ.1 13 i)) ⟨by omega, by omega⟩ hr1 hr2 hr3 hr4) ?_
      rintro τ2 ⟨hT2, hS2, hF2⟩
      refine e_iinc (pc' := 54) (L' := [some (rv 37), some (rv 11), some (iv (i + 1)), some (iv (σ.1 13 i))]) dX9_toldBy_51 rfl rfl (by decide) rfl ?_
      refine e_goto (pc' := 17) dX9_toldBy_54 (by decide) ?_
      exact ih _ _ _ (by omega) (by omega) (by omega) (by rw [evI_s _ _ (by omega)]; first | (rw [if_pos (by omega)]; exact hT2) | (rw [if_neg (by omega)]; exact hT2)) hS2 (hF1.tr hF2)
    · refine e_aload_n (pc' := 37) dX9_toldBy_36 rfl rfl ?_
      refine e_iload_n (pc' := 38) dX9_toldBy_37 rfl rfl ?_
      refine e_i2l (pc' := 39) dX9_toldBy_38 rfl ⟨by omega, by omega⟩ ?_
      refine e_cv1v (pc' := 42) dX9_toldBy_39 rfl k_9_74 h_37 rfl (Nat.le_of_ble_eq_true rfl) rfl rfl ⟨rfl, rfl⟩ ⟨Nat.zero_le _, Nat.zero_le _⟩ (s_push t (evI t (σ.1 13) i) hS1 hT1 (Int64.ofInt (σ.1 13 i))) ?_
      rintro τ2 ⟨hT2, hS2, hF2⟩
      refine e_goto (pc' := 51) dX9_toldBy_42 (by decide) ?_
      refine e_iinc (pc' := 54) (L' := [some (rv 37), some (rv 11), some (iv (i + 1)), some (iv (σ.1 13 i))]) dX9_toldBy_51 rfl rfl (by decide) rfl ?_
      refine e_goto (pc' := 17) dX9_toldBy_54 (by decide) ?_
      exact ih _ _ _ (by omega) (by omega) (by omega) (by rw [evI_s _ _ (by omega)]; first | (rw [if_pos (by omega)]; exact hT2) | (rw [if_neg (by omega)]; exact hT2)) hS2 (hF1.tr hF2)

set_option maxHeartbeats 4000000 in
set_option maxRecDepth 100000 in
theorem s_toldBy_11 {X : AX} {d : Nat} {σ : SG} (t : ST) (hS : SgI σ t) (hr1 : rg t.1) (hr2 : rg t.2.1) (hr3 : rg t.2.2.1) (hr4 : rg t.2.2.2.1) (hfl : rg (σ.1 11 4)) (hn : 0 ≤ (σ.1 11 3) ∧ (σ.1 11 3) ≤ 40) (hst : ∀ j, 0 ≤ j → j < (σ.1 11 3) → -1000 ≤ (σ.1 13) j ∧ (σ.1 13) j ≤ 999999) : Ev X 0 0 (d + 2) mX9_toldBy 0 [some (rv 37), some (rv 11), none, none] [] σ (QI (fun v σ' => v = tlS t (σ.1 11 4) (σ.1 13) (σ.1 11 3) ∧ Fr [37, 38] σ σ')) := by
  obtain ⟨hfl1, hfl2⟩ := hfl
  refine e_aload_n (pc' := 1) dX9_toldBy_0 rfl rfl ?_
  refine e_getI (pc' := 4) (v := (σ.1 11 4)) dX9_toldBy_1 rfl f_9_60 h_11 rfl rfl ?_
  refine e_iconst (pc' := 5) dX9_toldBy_4 rfl ?_
  refine e_icmpI (pc' := 8) (t := 10) dX9_toldBy_5 (by decide) rfl ⟨by omega, by omega⟩ ⟨by omega, by omega⟩ (fun (c2_1 : ((σ.1 11 4) : Int) = (-1)) => ?_) (fun (c2_1 : ¬ (((σ.1 11 4) : Int) = (-1))) => ?_)
  · refine e_aload_n (pc' := 11) dX9_toldBy_10 rfl rfl ?_
    refine e_iconst (pc' := 12) dX9_toldBy_11 rfl ?_
    refine e_putI (pc' := 15) dX9_toldBy_12 rfl f_9_65 h_37 rfl rfl rfl ?_
    refine e_iconst (pc' := 16) dX9_toldBy_15 rfl ?_
    refine e_istore_n (pc' := 17) (L' := [some (rv 37), some (rv 11), some (iv 0), none]) dX9_toldBy_16 rfl (by decide) rfl ?_
    exact l_toldBy_11 t hS hr1 hr2 hr3 hr4 ⟨hfl1, hfl2⟩ hn hst (by omega) (σ.1 11 3 + 1).toNat _ _ _ (by omega) (by omega) (by omega) ⟨rfl, trivial, Nat.zero_le _⟩ hS (fr_I Fr.rf (by decide))
  · refine e_iconst (pc' := 9) dX9_toldBy_8 rfl ?_
    exact e_iret dX9_toldBy_9 rfl ⟨rfl, Nat.le_refl _⟩ ⟨_, rfl, by unfold tlS; rw [if_neg (by omega)], Fr.rf⟩

set_option maxHeartbeats 4000000 in
set_option maxRecDepth 100000 in
theorem l_toldBy_14 {X : AX} {d : Nat} {σ : SG} (t : ST) (hS : SgI σ t) (hr1 : rg t.1) (hr2 : rg t.2.1) (hr3 : rg t.2.2.1) (hr4 : rg t.2.2.2.1) (hfl : rg (σ.1 14 4)) (hn : 0 ≤ (σ.1 14 3) ∧ (σ.1 14 3) ≤ 40) (hst : ∀ j, 0 ≤ j → j < (σ.1 14 3) → -1000 ≤ (σ.1 16) j ∧ (σ.1 16) j ≤ 999999) (hf1 : σ.1 14 4 = -1) : ∀ (k : Nat) (i : Int) (τ : SG) (x : Option AV), 0 ≤ i → i ≤ (σ.1 14 3) → (σ.1 14 3) - i < k → StI τ (evI t (σ.1 16) i) → SgI τ t → Fr [37, 38] σ τ → Ev X 0 0 (d + 2) mX9_toldBy 17 [some (rv 37), some (rv 14), some (iv i), x] [] τ (QI (fun v σ' => v = tlS t (σ.1 14 4) (σ.1 16) (σ.1 14 3) ∧ Fr [37, 38] σ σ')) := by
  intro k
  induction k with
  | zero => intros; omega
  | succ k ih =>
  intro i τ x hi0 hi1 hik hT1 hS1 hF1
  refine e_iload_n (pc' := 18) dX9_toldBy_17 rfl rfl ?_
  refine e_aload_n (pc' := 19) dX9_toldBy_18 rfl rfl ?_
  refine e_getI (pc' := 22) (v := (σ.1 14 3)) dX9_toldBy_19 rfl f_9_68 h_14 rfl ((congrFun (hF1 14 (by decide)).1 3).trans rfl) ?_
  refine e_icmpI (pc' := 25) (t := 57) dX9_toldBy_22 (by decide) rfl ⟨by omega, by omega⟩ ⟨by omega, by omega⟩ (fun (c2_1 : (σ.1 14 3) ≤ (i : Int)) => ?_) (fun (c2_1 : ¬ ((σ.1 14 3) ≤ (i : Int))) => ?_)
  · refine e_lconst (pc' := 58) (z := 0) dX9_toldBy_57 rfl rfl ?_
    refine e_ldc2 (pc' := 61) dX9_toldBy_58 rfl c_9_81 ?_
    refine e_aload_n (pc' := 62) dX9_toldBy_61 rfl rfl ?_
    refine e_cv0j (pc' := 65) dX9_toldBy_62 rfl k_9_83 h_37 rfl (Nat.le_of_ble_eq_true rfl) rfl rfl ⟨rfl, rfl⟩ ⟨Nat.zero_le _, Nat.zero_le _⟩ (s_pop t (evI t (σ.1 16) i) hS1 hT1) ?_
    rintro v2 τ2 ⟨rfl, hT2, hS2, hF2⟩
    refine e_minl (pc' := 68) dX9_toldBy_65 rfl p_9_87 (Nat.le_of_ble_eq_true rfl) ⟨Nat.zero_le _, Nat.zero_le _⟩ ?_
    refine e_maxl (pc' := 71) dX9_toldBy_68 rfl p_9_90 (Nat.le_of_ble_eq_true rfl) ⟨Nat.zero_le _, Nat.zero_le _⟩ ?_
    refine e_l2i (pc' := 72) dX9_toldBy_71 rfl ?_
    exact e_iret dX9_toldBy_72 rfl ⟨rfl, Nat.le_refl _⟩ ⟨_, rfl, by unfold tlS; rw [if_pos hf1, show (σ.1 14 3) = i by omega]; rfl, hF1.tr hF2⟩
  · have hj := hst i (by omega) (by omega)
    refine e_aload_n (pc' := 26) dX9_toldBy_25 rfl rfl ?_
    refine e_getR (pc' := 29) dX9_toldBy_26 rfl f_9_71 h_14 rfl ?_
    refine e_iload_n (pc' := 30) dX9_toldBy_29 rfl rfl ?_
    refine e_iald (pc' := 31) (v := (σ.1 16 i)) dX9_toldBy_30 rfl h_16 (by decide) (by omega) (by omega) ((congrFun (hF1 16 (by decide)).1 i).trans rfl) ?_
    refine e_istore_n (pc' := 32) (L' := [some (rv 37), some (rv 14), some (iv i), some (iv (σ.1 16 i))]) dX9_toldBy_31 rfl (by decide) rfl ?_
    refine e_iload_n (pc' := 33) dX9_toldBy_32 rfl rfl ?_
    refine e_ifI (pc' := 36) (t := 45) dX9_toldBy_33 (by decide) rfl ⟨by omega, by omega⟩ (fun (c4_2 : ((σ.1 16 i) : Int) < 0) => ?_) (fun (c4_2 : ¬ (((σ.1 16 i) : Int) < 0)) => ?_)
    · refine e_aload_n (pc' := 46) dX9_toldBy_45 rfl rfl ?_
      refine e_iload_n (pc' := 47) dX9_toldBy_46 rfl rfl ?_
      refine e_ineg (pc' := 48) dX9_toldBy_47 rfl ?_
      refine e_cv1v (pc' := 51) dX9_toldBy_48 rfl k_9_78 h_37 rfl (Nat.le_of_ble_eq_true rfl) rfl rfl ⟨rfl, rfl⟩ ⟨Nat.zero_le _, Nat.zero_le _⟩ (s_doStep t (evI t (σ.1 16) i) hS1 hT1 (-(σ.1 16 i)) ⟨by omega, by omega⟩ hr1 hr2 hr3 hr4) ?_
      rintro τ2 ⟨hT2, hS2, hF2⟩
      refine e_iinc (pc' := 54) (L' := [some (rv 37), some (rv 14), some (iv (i + 1)), some (iv (σ.1 16 i))]) dX9_toldBy_51 rfl rfl (by decide) rfl ?_
      refine e_goto (pc' := 17) dX9_toldBy_54 (by decide) ?_
      exact ih _ _ _ (by omega) (by omega) (by omega) (by rw [evI_s _ _ (by omega)]; first | (rw [if_pos (by omega)]; exact hT2) | (rw [if_neg (by omega)]; exact hT2)) hS2 (hF1.tr hF2)
    · refine e_aload_n (pc' := 37) dX9_toldBy_36 rfl rfl ?_
      refine e_iload_n (pc' := 38) dX9_toldBy_37 rfl rfl ?_
      refine e_i2l (pc' := 39) dX9_toldBy_38 rfl ⟨by omega, by omega⟩ ?_
      refine e_cv1v (pc' := 42) dX9_toldBy_39 rfl k_9_74 h_37 rfl (Nat.le_of_ble_eq_true rfl) rfl rfl ⟨rfl, rfl⟩ ⟨Nat.zero_le _, Nat.zero_le _⟩ (s_push t (evI t (σ.1 16) i) hS1 hT1 (Int64.ofInt (σ.1 16 i))) ?_
      rintro τ2 ⟨hT2, hS2, hF2⟩
      refine e_goto (pc' := 51) dX9_toldBy_42 (by decide) ?_
      refine e_iinc (pc' := 54) (L' := [some (rv 37), some (rv 14), some (iv (i + 1)), some (iv (σ.1 16 i))]) dX9_toldBy_51 rfl rfl (by decide) rfl ?_
      refine e_goto (pc' := 17) dX9_toldBy_54 (by decide) ?_
      exact ih _ _ _ (by omega) (by omega) (by omega) (by rw [evI_s _ _ (by omega)]; first | (rw [if_pos (by omega)]; exact hT2) | (rw [if_neg (by omega)]; exact hT2)) hS2 (hF1.tr hF2)

set_option maxHeartbeats 4000000 in
set_option maxRecDepth 100000 in
theorem s_toldBy_14 {X : AX} {d : Nat} {σ : SG} (t : ST) (hS : SgI σ t) (hr1 : rg t.1) (hr2 : rg t.2.1) (hr3 : rg t.2.2.1) (hr4 : rg t.2.2.2.1) (hfl : rg (σ.1 14 4)) (hn : 0 ≤ (σ.1 14 3) ∧ (σ.1 14 3) ≤ 40) (hst : ∀ j, 0 ≤ j → j < (σ.1 14 3) → -1000 ≤ (σ.1 16) j ∧ (σ.1 16) j ≤ 999999) : Ev X 0 0 (d + 2) mX9_toldBy 0 [some (rv 37), some (rv 14), none, none] [] σ (QI (fun v σ' => v = tlS t (σ.1 14 4) (σ.1 16) (σ.1 14 3) ∧ Fr [37, 38] σ σ')) := by
  obtain ⟨hfl1, hfl2⟩ := hfl
  refine e_aload_n (pc' := 1) dX9_toldBy_0 rfl rfl ?_
  refine e_getI (pc' := 4) (v := (σ.1 14 4)) dX9_toldBy_1 rfl f_9_60 h_14 rfl rfl ?_
  refine e_iconst (pc' := 5) dX9_toldBy_4 rfl ?_
  refine e_icmpI (pc' := 8) (t := 10) dX9_toldBy_5 (by decide) rfl ⟨by omega, by omega⟩ ⟨by omega, by omega⟩ (fun (c2_1 : ((σ.1 14 4) : Int) = (-1)) => ?_) (fun (c2_1 : ¬ (((σ.1 14 4) : Int) = (-1))) => ?_)
  · refine e_aload_n (pc' := 11) dX9_toldBy_10 rfl rfl ?_
    refine e_iconst (pc' := 12) dX9_toldBy_11 rfl ?_
    refine e_putI (pc' := 15) dX9_toldBy_12 rfl f_9_65 h_37 rfl rfl rfl ?_
    refine e_iconst (pc' := 16) dX9_toldBy_15 rfl ?_
    refine e_istore_n (pc' := 17) (L' := [some (rv 37), some (rv 14), some (iv 0), none]) dX9_toldBy_16 rfl (by decide) rfl ?_
    exact l_toldBy_14 t hS hr1 hr2 hr3 hr4 ⟨hfl1, hfl2⟩ hn hst (by omega) (σ.1 14 3 + 1).toNat _ _ _ (by omega) (by omega) (by omega) ⟨rfl, trivial, Nat.zero_le _⟩ hS (fr_I Fr.rf (by decide))
  · refine e_iconst (pc' := 9) dX9_toldBy_8 rfl ?_
    exact e_iret dX9_toldBy_9 rfl ⟨rfl, Nat.le_refl _⟩ ⟨_, rfl, by unfold tlS; rw [if_neg (by omega)], Fr.rf⟩

set_option maxHeartbeats 4000000 in
set_option maxRecDepth 100000 in
theorem l_toldBy_24 {X : AX} {d : Nat} {σ : SG} (t : ST) (hS : SgI σ t) (hr1 : rg t.1) (hr2 : rg t.2.1) (hr3 : rg t.2.2.1) (hr4 : rg t.2.2.2.1) (hfl : rg (σ.1 24 4)) (hn : 0 ≤ (σ.1 24 3) ∧ (σ.1 24 3) ≤ 40) (hst : ∀ j, 0 ≤ j → j < (σ.1 24 3) → -1000 ≤ (σ.1 26) j ∧ (σ.1 26) j ≤ 999999) (hf1 : σ.1 24 4 = -1) : ∀ (k : Nat) (i : Int) (τ : SG) (x : Option AV), 0 ≤ i → i ≤ (σ.1 24 3) → (σ.1 24 3) - i < k → StI τ (evI t (σ.1 26) i) → SgI τ t → Fr [37, 38] σ τ → Ev X 0 0 (d + 2) mX9_toldBy 17 [some (rv 37), some (rv 24), some (iv i), x] [] τ (QI (fun v σ' => v = tlS t (σ.1 24 4) (σ.1 26) (σ.1 24 3) ∧ Fr [37, 38] σ σ')) := by
  intro k
  induction k with
  | zero => intros; omega
  | succ k ih =>
  intro i τ x hi0 hi1 hik hT1 hS1 hF1
  refine e_iload_n (pc' := 18) dX9_toldBy_17 rfl rfl ?_
  refine e_aload_n (pc' := 19) dX9_toldBy_18 rfl rfl ?_
  refine e_getI (pc' := 22) (v := (σ.1 24 3)) dX9_toldBy_19 rfl f_9_68 h_24 rfl ((congrFun (hF1 24 (by decide)).1 3).trans rfl) ?_
  refine e_icmpI (pc' := 25) (t := 57) dX9_toldBy_22 (by decide) rfl ⟨by omega, by omega⟩ ⟨by omega, by omega⟩ (fun (c2_1 : (σ.1 24 3) ≤ (i : Int)) => ?_) (fun (c2_1 : ¬ ((σ.1 24 3) ≤ (i : Int))) => ?_)
  · refine e_lconst (pc' := 58) (z := 0) dX9_toldBy_57 rfl rfl ?_
    refine e_ldc2 (pc' := 61) dX9_toldBy_58 rfl c_9_81 ?_
    refine e_aload_n (pc' := 62) dX9_toldBy_61 rfl rfl ?_
    refine e_cv0j (pc' := 65) dX9_toldBy_62 rfl k_9_83 h_37 rfl (Nat.le_of_ble_eq_true rfl) rfl rfl ⟨rfl, rfl⟩ ⟨Nat.zero_le _, Nat.zero_le _⟩ (s_pop t (evI t (σ.1 26) i) hS1 hT1) ?_
    rintro v2 τ2 ⟨rfl, hT2, hS2, hF2⟩
    refine e_minl (pc' := 68) dX9_toldBy_65 rfl p_9_87 (Nat.le_of_ble_eq_true rfl) ⟨Nat.zero_le _, Nat.zero_le _⟩ ?_
    refine e_maxl (pc' := 71) dX9_toldBy_68 rfl p_9_90 (Nat.le_of_ble_eq_true rfl) ⟨Nat.zero_le _, Nat.zero_le _⟩ ?_
    refine e_l2i (pc' := 72) dX9_toldBy_71 rfl ?_
    exact e_iret dX9_toldBy_72 rfl ⟨rfl, Nat.le_refl _⟩ ⟨_, rfl, by unfold tlS; rw [if_pos hf1, show (σ.1 24 3) = i by omega]; rfl, hF1.tr hF2⟩
  · have hj := hst i (by omega) (by omega)
    refine e_aload_n (pc' := 26) dX9_toldBy_25 rfl rfl ?_
    refine e_getR (pc' := 29) dX9_toldBy_26 rfl f_9_71 h_24 rfl ?_
    refine e_iload_n (pc' := 30) dX9_toldBy_29 rfl rfl ?_
    refine e_iald (pc' := 31) (v := (σ.1 26 i)) dX9_toldBy_30 rfl h_26 (by decide) (by omega) (by omega) ((congrFun (hF1 26 (by decide)).1 i).trans rfl) ?_
    refine e_istore_n (pc' := 32) (L' := [some (rv 37), some (rv 24), some (iv i), some (iv (σ.1 26 i))]) dX9_toldBy_31 rfl (by decide) rfl ?_
    refine e_iload_n (pc' := 33) dX9_toldBy_32 rfl rfl ?_
    refine e_ifI (pc' := 36) (t := 45) dX9_toldBy_33 (by decide) rfl ⟨by omega, by omega⟩ (fun (c4_2 : ((σ.1 26 i) : Int) < 0) => ?_) (fun (c4_2 : ¬ (((σ.1 26 i) : Int) < 0)) => ?_)
    · refine e_aload_n (pc' := 46) dX9_toldBy_45 rfl rfl ?_
      refine e_iload_n (pc' := 47) dX9_toldBy_46 rfl rfl ?_
      refine e_ineg (pc' := 48) dX9_toldBy_47 rfl ?_
      refine e_cv1v (pc' := 51) dX9_toldBy_48 rfl k_9_78 h_37 rfl (Nat.le_of_ble_eq_true rfl) rfl rfl ⟨rfl, rfl⟩ ⟨Nat.zero_le _, Nat.zero_le _⟩ (s_doStep t (evI t (σ.1 26) i) hS1 hT1 (-(σ.1 26 i)) ⟨by omega, by omega⟩ hr1 hr2 hr3 hr4) ?_
      rintro τ2 ⟨hT2, hS2, hF2⟩
      refine e_iinc (pc' := 54) (L' := [some (rv 37), some (rv 24), some (iv (i + 1)), some (iv (σ.1 26 i))]) dX9_toldBy_51 rfl rfl (by decide) rfl ?_
      refine e_goto (pc' := 17) dX9_toldBy_54 (by decide) ?_
      exact ih _ _ _ (by omega) (by omega) (by omega) (by rw [evI_s _ _ (by omega)]; first | (rw [if_pos (by omega)]; exact hT2) | (rw [if_neg (by omega)]; exact hT2)) hS2 (hF1.tr hF2)
    · refine e_aload_n (pc' := 37) dX9_toldBy_36 rfl rfl ?_
      refine e_iload_n (pc' := 38) dX9_toldBy_37 rfl rfl ?_
      refine e_i2l (pc' := 39) dX9_toldBy_38 rfl ⟨by omega, by omega⟩ ?_
      refine e_cv1v (pc' := 42) dX9_toldBy_39 rfl k_9_74 h_37 rfl (Nat.le_of_ble_eq_true rfl) rfl rfl ⟨rfl, rfl⟩ ⟨Nat.zero_le _, Nat.zero_le _⟩ (s_push t (evI t (σ.1 26) i) hS1 hT1 (Int64.ofInt (σ.1 26 i))) ?_
      rintro τ2 ⟨hT2, hS2, hF2⟩
      refine e_goto (pc' := 51) dX9_toldBy_42 (by decide) ?_
      refine e_iinc (pc' := 54) (L' := [some (rv 37), some (rv 24), some (iv (i + 1)), some (iv (σ.1 26 i))]) dX9_toldBy_51 rfl rfl (by decide) rfl ?_
      refine e_goto (pc' := 17) dX9_toldBy_54 (by decide) ?_
      exact ih _ _ _ (by omega) (by omega) (by omega) (by rw [evI_s _ _ (by omega)]; first | (rw [if_pos (by omega)]; exact hT2) | (rw [if_neg (by omega)]; exact hT2)) hS2 (hF1.tr hF2)

set_option maxHeartbeats 4000000 in
set_option maxRecDepth 100000 in
theorem s_toldBy_24 {X : AX} {d : Nat} {σ : SG} (t : ST) (hS : SgI σ t) (hr1 : rg t.1) (hr2 : rg t.2.1) (hr3 : rg t.2.2.1) (hr4 : rg t.2.2.2.1) (hfl : rg (σ.1 24 4)) (hn : 0 ≤ (σ.1 24 3) ∧ (σ.1 24 3) ≤ 40) (hst : ∀ j, 0 ≤ j → j < (σ.1 24 3) → -1000 ≤ (σ.1 26) j ∧ (σ.1 26) j ≤ 999999) : Ev X 0 0 (d + 2) mX9_toldBy 0 [some (rv 37), some (rv 24), none, none] [] σ (QI (fun v σ' => v = tlS t (σ.1 24 4) (σ.1 26) (σ.1 24 3) ∧ Fr [37, 38] σ σ')) := by
  obtain ⟨hfl1, hfl2⟩ := hfl
  refine e_aload_n (pc' := 1) dX9_toldBy_0 rfl rfl ?_
  refine e_getI (pc' := 4) (v := (σ.1 24 4)) dX9_toldBy_1 rfl f_9_60 h_24 rfl rfl ?_
  refine e_iconst (pc' := 5) dX9_toldBy_4 rfl ?_
  refine e_icmpI (pc' := 8) (t := 10) dX9_toldBy_5 (by decide) rfl ⟨by omega, by omega⟩ ⟨by omega, by omega⟩ (fun (c2_1 : ((σ.1 24 4) : Int) = (-1)) => ?_) (fun (c2_1 : ¬ (((σ.1 24 4) : Int) = (-1))) => ?_)
  · refine e_aload_n (pc' := 11) dX9_toldBy_10 rfl rfl ?_
    refine e_iconst (pc' := 12) dX9_toldBy_11 rfl ?_
    refine e_putI (pc' := 15) dX9_toldBy_12 rfl f_9_65 h_37 rfl rfl rfl ?_
    refine e_iconst (pc' := 16) dX9_toldBy_15 rfl ?_
    refine e_istore_n (pc' := 17) (L' := [some (rv 37), some (rv 24), some (iv 0), none]) dX9_toldBy_16 rfl (by decide) rfl ?_
    exact l_toldBy_24 t hS hr1 hr2 hr3 hr4 ⟨hfl1, hfl2⟩ hn hst (by omega) (σ.1 24 3 + 1).toNat _ _ _ (by omega) (by omega) (by omega) ⟨rfl, trivial, Nat.zero_le _⟩ hS (fr_I Fr.rf (by decide))
  · refine e_iconst (pc' := 9) dX9_toldBy_8 rfl ?_
    exact e_iret dX9_toldBy_9 rfl ⟨rfl, Nat.le_refl _⟩ ⟨_, rfl, by unfold tlS; rw [if_neg (by omega)], Fr.rf⟩

set_option maxHeartbeats 4000000 in
set_option maxRecDepth 100000 in
theorem l_toldBy_27 {X : AX} {d : Nat} {σ : SG} (t : ST) (hS : SgI σ t) (hr1 : rg t.1) (hr2 : rg t.2.1) (hr3 : rg t.2.2.1) (hr4 : rg t.2.2.2.1) (hfl : rg (σ.1 27 4)) (hn : 0 ≤ (σ.1 27 3) ∧ (σ.1 27 3) ≤ 40) (hst : ∀ j, 0 ≤ j → j < (σ.1 27 3) → -1000 ≤ (σ.1 29) j ∧ (σ.1 29) j ≤ 999999) (hf1 : σ.1 27 4 = -1) : ∀ (k : Nat) (i : Int) (τ : SG) (x : Option AV), 0 ≤ i → i ≤ (σ.1 27 3) → (σ.1 27 3) - i < k → StI τ (evI t (σ.1 29) i) → SgI τ t → Fr [37, 38] σ τ → Ev X 0 0 (d + 2) mX9_toldBy 17 [some (rv 37), some (rv 27), some (iv i), x] [] τ (QI (fun v σ' => v = tlS t (σ.1 27 4) (σ.1 29) (σ.1 27 3) ∧ Fr [37, 38] σ σ')) := by
  intro k
  induction k with
  | zero => intros; omega
  | succ k ih =>
  intro i τ x hi0 hi1 hik hT1 hS1 hF1
  refine e_iload_n (pc' := 18) dX9_toldBy_17 rfl rfl ?_
  refine e_aload_n (pc' := 19) dX9_toldBy_18 rfl rfl ?_
  refine e_getI (pc' := 22) (v := (σ.1 27 3)) dX9_toldBy_19 rfl f_9_68 h_27 rfl ((congrFun (hF1 27 (by decide)).1 3).trans rfl) ?_
  refine e_icmpI (pc' := 25) (t := 57) dX9_toldBy_22 (by decide) rfl ⟨by omega, by omega⟩ ⟨by omega, by omega⟩ (fun (c2_1 : (σ.1 27 3) ≤ (i : Int)) => ?_) (fun (c2_1 : ¬ ((σ.1 27 3) ≤ (i : Int))) => ?_)
  · refine e_lconst (pc' := 58) (z := 0) dX9_toldBy_57 rfl rfl ?_
    refine e_ldc2 (pc' := 61) dX9_toldBy_58 rfl c_9_81 ?_
    refine e_aload_n (pc' := 62) dX9_toldBy_61 rfl rfl ?_
    refine e_cv0j (pc' := 65) dX9_toldBy_62 rfl k_9_83 h_37 rfl (Nat.le_of_ble_eq_true rfl) rfl rfl ⟨rfl, rfl⟩ ⟨Nat.zero_le _, Nat.zero_le _⟩ (s_pop t (evI t (σ.1 29) i) hS1 hT1) ?_
    rintro v2 τ2 ⟨rfl, hT2, hS2, hF2⟩
    refine e_minl (pc' := 68) dX9_toldBy_65 rfl p_9_87 (Nat.le_of_ble_eq_true rfl) ⟨Nat.zero_le _, Nat.zero_le _⟩ ?_
    refine e_maxl (pc' := 71) dX9_toldBy_68 rfl p_9_90 (Nat.le_of_ble_eq_true rfl) ⟨Nat.zero_le _, Nat.zero_le _⟩ ?_
    refine e_l2i (pc' := 72) dX9_toldBy_71 rfl ?_
    exact e_iret dX9_toldBy_72 rfl ⟨rfl, Nat.le_refl _⟩ ⟨_, rfl, by unfold tlS; rw [if_pos hf1, show (σ.1 27 3) = i by omega]; rfl, hF1.tr hF2⟩
  · have hj := hst i (by omega) (by omega)
    refine e_aload_n (pc' := 26) dX9_toldBy_25 rfl rfl ?_
    refine e_getR (pc' := 29) dX9_toldBy_26 rfl f_9_71 h_27 rfl ?_
    refine e_iload_n (pc' := 30) dX9_toldBy_29 rfl rfl ?_
    refine e_iald (pc' := 31) (v := (σ.1 29 i)) dX9_toldBy_30 rfl h_29 (by decide) (by omega) (by omega) ((congrFun (hF1 29 (by decide)).1 i).trans rfl) ?_
    refine e_istore_n (pc' := 32) (L' := [some (rv 37), some (rv 27), some (iv i), some (iv (σ.1 29 i))]) dX9_toldBy_31 rfl (by decide) rfl ?_
    refine e_iload_n (pc' := 33) dX9_toldBy_32 rfl rfl ?_
    refine e_ifI (pc' := 36) (t := 45) dX9_toldBy_33 (by decide) rfl ⟨by omega, by omega⟩ (fun (c4_2 : ((σ.1 29 i) : Int) < 0) => ?_) (fun (c4_2 : ¬ (((σ.1 29 i) : Int) < 0)) => ?_)
    · refine e_aload_n (pc' := 46) dX9_toldBy_45 rfl rfl ?_
      refine e_iload_n (pc' := 47) dX9_toldBy_46 rfl rfl ?_
      refine e_ineg (pc' := 48) dX9_toldBy_47 rfl ?_
      refine e_cv1v (pc' := 51) dX9_toldBy_48 rfl k_9_78 h_37 rfl (Nat.le_of_ble_eq_true rfl) rfl rfl ⟨rfl, rfl⟩ ⟨Nat.zero_le _, Nat.zero_le _⟩ (s_doStep t (evI t (σ.1 29) i) hS1 hT1 (-(σ.1 29 i)) ⟨by omega, by omega⟩ hr1 hr2 hr3 hr4) ?_
      rintro τ2 ⟨hT2, hS2, hF2⟩
      refine e_iinc (pc' := 54) (L' := [some (rv 37), some (rv 27), some (iv (i + 1)), some (iv (σ.1 29 i))]) dX9_toldBy_51 rfl rfl (by decide) rfl ?_
      refine e_goto (pc' := 17) dX9_toldBy_54 (by decide) ?_
      exact ih _ _ _ (by omega) (by omega) (by omega) (by rw [evI_s _ _ (by omega)]; first | (rw [if_pos (by omega)]; exact hT2) | (rw [if_neg (by omega)]; exact hT2)) hS2 (hF1.tr hF2)
    · refine e_aload_n (pc' := 37) dX9_toldBy_36 rfl rfl ?_
      refine e_iload_n (pc' := 38) dX9_toldBy_37 rfl rfl ?_
      refine e_i2l (pc' := 39) dX9_toldBy_38 rfl ⟨by omega, by omega⟩ ?_
      refine e_cv1v (pc' := 42) dX9_toldBy_39 rfl k_9_74 h_37 rfl (Nat.le_of_ble_eq_true rfl) rfl rfl ⟨rfl, rfl⟩ ⟨Nat.zero_le _, Nat.zero_le _⟩ (s_push t (evI t (σ.1 29) i) hS1 hT1 (Int64.ofInt (σ.1 29 i))) ?_
      rintro τ2 ⟨hT2, hS2, hF2⟩
      refine e_goto (pc' := 51) dX9_toldBy_42 (by decide) ?_
      refine e_iinc (pc' := 54) (L' := [some (rv 37), some (rv 27), some (iv (i + 1)), some (iv (σ.1 29 i))]) dX9_toldBy_51 rfl rfl (by decide) rfl ?_
      refine e_goto (pc' := 17) dX9_toldBy_54 (by decide) ?_
      exact ih _ _ _ (by omega) (by omega) (by omega) (by rw [evI_s _ _ (by omega)]; first | (rw [if_pos (by omega)]; exact hT2) | (rw [if_neg (by omega)]; exact hT2)) hS2 (hF1.tr hF2)

set_option maxHeartbeats 4000000 in
set_option maxRecDepth 100000 in
theorem s_toldBy_27 {X : AX} {d : Nat} {σ : SG} (t : ST) (hS : SgI σ t) (hr1 : rg t.1) (hr2 : rg t.2.1) (hr3 : rg t.2.2.1) (hr4 : rg t.2.2.2.1) (hfl : rg (σ.1 27 4)) (hn : 0 ≤ (σ.1 27 3) ∧ (σ.1 27 3) ≤ 40) (hst : ∀ j, 0 ≤ j → j < (σ.1 27 3) → -1000 ≤ (σ.1 29) j ∧ (σ.1 29) j ≤ 999999) : Ev X 0 0 (d + 2) mX9_toldBy 0 [some (rv 37), some (rv 27), none, none] [] σ (QI (fun v σ' => v = tlS t (σ.1 27 4) (σ.1 29) (σ.1 27 3) ∧ Fr [37, 38] σ σ')) := by
  obtain ⟨hfl1, hfl2⟩ := hfl
  refine e_aload_n (pc' := 1) dX9_toldBy_0 rfl rfl ?_
  refine e_getI (pc' := 4) (v := (σ.1 27 4)) dX9_toldBy_1 rfl f_9_60 h_27 rfl rfl ?_
  refine e_iconst (pc' := 5) dX9_toldBy_4 rfl ?_
  refine e_icmpI (pc' := 8) (t := 10) dX9_toldBy_5 (by decide) rfl ⟨by omega, by omega⟩ ⟨by omega, by omega⟩ (fun (c2_1 : ((σ.1 27 4) : Int) = (-1)) => ?_) (fun (c2_1 : ¬ (((σ.1 27 4) : Int) = (-1))) => ?_)
  · refine e_aload_n (pc' := 11) dX9_toldBy_10 rfl rfl ?_
    refine e_iconst (pc' := 12) dX9_toldBy_11 rfl ?_
    refine e_putI (pc' := 15) dX9_toldBy_12 rfl f_9_65 h_37 rfl rfl rfl ?_
    refine e_iconst (pc' := 16) dX9_toldBy_15 rfl ?_
    refine e_istore_n (pc' := 17) (L' := [some (rv 37), some (rv 27), some (iv 0), none]) dX9_toldBy_16 rfl (by decide) rfl ?_
    exact l_toldBy_27 t hS hr1 hr2 hr3 hr4 ⟨hfl1, hfl2⟩ hn hst (by omega) (σ.1 27 3 + 1).toNat _ _ _ (by omega) (by omega) (by omega) ⟨rfl, trivial, Nat.zero_le _⟩ hS (fr_I Fr.rf (by decide))
  · refine e_iconst (pc' := 9) dX9_toldBy_8 rfl ?_
    exact e_iret dX9_toldBy_9 rfl ⟨rfl, Nat.le_refl _⟩ ⟨_, rfl, by unfold tlS; rw [if_neg (by omega)], Fr.rf⟩

set_option maxHeartbeats 4000000 in
set_option maxRecDepth 100000 in
theorem l_toldBy_30 {X : AX} {d : Nat} {σ : SG} (t : ST) (hS : SgI σ t) (hr1 : rg t.1) (hr2 : rg t.2.1) (hr3 : rg t.2.2.1) (hr4 : rg t.2.2.2.1) (hfl : rg (σ.1 30 4)) (hn : 0 ≤ (σ.1 30 3) ∧ (σ.1 30 3) ≤ 40) (hst : ∀ j, 0 ≤ j → j < (σ.1 30 3) → -1000 ≤ (σ.1 32) j ∧ (σ.1 32) j ≤ 999999) (hf1 : σ.1 30 4 = -1) : ∀ (k : Nat) (i : Int) (τ : SG) (x : Option AV), 0 ≤ i → i ≤ (σ.1 30 3) → (σ.1 30 3) - i < k → StI τ (evI t (σ.1 32) i) → SgI τ t → Fr [37, 38] σ τ → Ev X 0 0 (d + 2) mX9_toldBy 17 [some (rv 37), some (rv 30), some (iv i), x] [] τ (QI (fun v σ' => v = tlS t (σ.1 30 4) (σ.1 32) (σ.1 30 3) ∧ Fr [37, 38] σ σ')) := by
  intro k
  induction k with
  | zero => intros; omega
  | succ k ih =>
  intro i τ x hi0 hi1 hik hT1 hS1 hF1
  refine e_iload_n (pc' := 18) dX9_toldBy_17 rfl rfl ?_
  refine e_aload_n (pc' := 19) dX9_toldBy_18 rfl rfl ?_
  refine e_getI (pc' := 22) (v := (σ.1 30 3)) dX9_toldBy_19 rfl f_9_68 h_30 rfl ((congrFun (hF1 30 (by decide)).1 3).trans rfl) ?_
  refine e_icmpI (pc' := 25) (t := 57) dX9_toldBy_22 (by decide) rfl ⟨by omega, by omega⟩ ⟨by omega, by omega⟩ (fun (c2_1 : (σ.1 30 3) ≤ (i : Int)) => ?_) (fun (c2_1 : ¬ ((σ.1 30 3) ≤ (i : Int))) => ?_)
  · refine e_lconst (pc' := 58) (z := 0) dX9_toldBy_57 rfl rfl ?_
    refine e_ldc2 (pc' := 61) dX9_toldBy_58 rfl c_9_81 ?_
    refine e_aload_n (pc' := 62) dX9_toldBy_61 rfl rfl ?_
    refine e_cv0j (pc' := 65) dX9_toldBy_62 rfl k_9_83 h_37 rfl (Nat.le_of_ble_eq_true rfl) rfl rfl ⟨rfl, rfl⟩ ⟨Nat.zero_le _, Nat.zero_le _⟩ (s_pop t (evI t (σ.1 32) i) hS1 hT1) ?_
    rintro v2 τ2 ⟨rfl, hT2, hS2, hF2⟩
    refine e_minl (pc' := 68) dX9_toldBy_65 rfl p_9_87 (Nat.le_of_ble_eq_true rfl) ⟨Nat.zero_le _, Nat.zero_le _⟩ ?_
    refine e_maxl (pc' := 71) dX9_toldBy_68 rfl p_9_90 (Nat.le_of_ble_eq_true rfl) ⟨Nat.zero_le _, Nat.zero_le _⟩ ?_
    refine e_l2i (pc' := 72) dX9_toldBy_71 rfl ?_
    exact e_iret dX9_toldBy_72 rfl ⟨rfl, Nat.le_refl _⟩ ⟨_, rfl, by unfold tlS; rw [if_pos hf1, show (σ.1 30 3) = i by omega]; rfl, hF1.tr hF2⟩
  · have hj := hst i (by omega) (by omega)
    refine e_aload_n (pc' := 26) dX9_toldBy_25 rfl rfl ?_
    refine e_getR (pc' := 29) dX9_toldBy_26 rfl f_9_71 h_30 rfl ?_
    refine e_iload_n (pc' := 30) dX9_toldBy_29 rfl rfl ?_
    refine e_iald (pc' := 31) (v := (σ.1 32 i)) dX9_toldBy_30 rfl h_32 (by decide) (by omega) (by omega) ((congrFun (hF1 32 (by decide)).1 i).trans rfl) ?_
    refine e_istore_n (pc' := 32) (L' := [some (rv 37), some (rv 30), some (iv i), some (iv (σ.1 32 i))]) dX9_toldBy_31 rfl (by decide) rfl ?_
    refine e_iload_n (pc' := 33) dX9_toldBy_32 rfl rfl ?_
    refine e_ifI (pc' := 36) (t := 45) dX9_toldBy_33 (by decide) rfl ⟨by omega, by omega⟩ (fun (c4_2 : ((σ.1 32 i) : Int) < 0) => ?_) (fun (c4_2 : ¬ (((σ.1 32 i) : Int) < 0)) => ?_)
    · refine e_aload_n (pc' := 46) dX9_toldBy_45 rfl rfl ?_
      refine e_iload_n (pc' := 47) dX9_toldBy_46 rfl rfl ?_
      refine e_ineg (pc' := 48) dX9_toldBy_47 rfl ?_
      refine e_cv1v (pc' := 51) dX9_toldBy_48 rfl k_9_78 h_37 rfl (Nat.le_of_ble_eq_true rfl) rfl rfl ⟨rfl, rfl⟩ ⟨Nat.zero_le _, Nat.zero_le _⟩ (s_doStep t (evI t (σ.1 32) i) hS1 hT1 (-(σ.1 32 i)) ⟨by omega, by omega⟩ hr1 hr2 hr3 hr4) ?_
      rintro τ2 ⟨hT2, hS2, hF2⟩
      refine e_iinc (pc' := 54) (L' := [some (rv 37), some (rv 30), some (iv (i + 1)), some (iv (σ.1 32 i))]) dX9_toldBy_51 rfl rfl (by decide) rfl ?_
      refine e_goto (pc' := 17) dX9_toldBy_54 (by decide) ?_
      exact ih _ _ _ (by omega) (by omega) (by omega) (by rw [evI_s _ _ (by omega)]; first | (rw [if_pos (by omega)]; exact hT2) | (rw [if_neg (by omega)]; exact hT2)) hS2 (hF1.tr hF2)
    · refine e_aload_n (pc' := 37) dX9_toldBy_36 rfl rfl ?_
      refine e_iload_n (pc' := 38) dX9_toldBy_37 rfl rfl ?_
      refine e_i2l (pc' := 39) dX9_toldBy_38 rfl ⟨by omega, by omega⟩ ?_
      refine e_cv1v (pc' := 42) dX9_toldBy_39 rfl k_9_74 h_37 rfl (Nat.le_of_ble_eq_true rfl) rfl rfl ⟨rfl, rfl⟩ ⟨Nat.zero_le _, Nat.zero_le _⟩ (s_push t (evI t (σ.1 32) i) hS1 hT1 (Int64.ofInt (σ.1 32 i))) ?_
      rintro τ2 ⟨hT2, hS2, hF2⟩
      refine e_goto (pc' := 51) dX9_toldBy_42 (by decide) ?_
      refine e_iinc (pc' := 54) (L' := [some (rv 37), some (rv 30), some (iv (i + 1)), some (iv (σ.1 32 i))]) dX9_toldBy_51 rfl rfl (by decide) rfl ?_
      refine e_goto (pc' := 17) dX9_toldBy_54 (by decide) ?_
      exact ih _ _ _ (by omega) (by omega) (by omega) (by rw [evI_s _ _ (by omega)]; first | (rw [if_pos (by omega)]; exact hT2) | (rw [if_neg (by omega)]; exact hT2)) hS2 (hF1.tr hF2)

set_option maxHeartbeats 4000000 in
set_option maxRecDepth 100000 in
theorem s_toldBy_30 {X : AX} {d : Nat} {σ : SG} (t : ST) (hS : SgI σ t) (hr1 : rg t.1) (hr2 : rg t.2.1) (hr3 : rg t.2.2.1) (hr4 : rg t.2.2.2.1) (hfl : rg (σ.1 30 4)) (hn : 0 ≤ (σ.1 30 3) ∧ (σ.1 30 3) ≤ 40) (hst : ∀ j, 0 ≤ j → j < (σ.1 30 3) → -1000 ≤ (σ.1 32) j ∧ (σ.1 32) j ≤ 999999) : Ev X 0 0 (d + 2) mX9_toldBy 0 [some (rv 37), some (rv 30), none, none] [] σ (QI (fun v σ' => v = tlS t (σ.1 30 4) (σ.1 32) (σ.1 30 3) ∧ Fr [37, 38] σ σ')) := by
  obtain ⟨hfl1, hfl2⟩ := hfl
  refine e_aload_n (pc' := 1) dX9_toldBy_0 rfl rfl ?_
  refine e_getI (pc' := 4) (v := (σ.1 30 4)) dX9_toldBy_1 rfl f_9_60 h_30 rfl rfl ?_
  refine e_iconst (pc' := 5) dX9_toldBy_4 rfl ?_
  refine e_icmpI (pc' := 8) (t := 10) dX9_toldBy_5 (by decide) rfl ⟨by omega, by omega⟩ ⟨by omega, by omega⟩ (fun (c2_1 : ((σ.1 30 4) : Int) = (-1)) => ?_) (fun (c2_1 : ¬ (((σ.1 30 4) : Int) = (-1))) => ?_)
  · refine e_aload_n (pc' := 11) dX9_toldBy_10 rfl rfl ?_
    refine e_iconst (pc' := 12) dX9_toldBy_11 rfl ?_
    refine e_putI (pc' := 15) dX9_toldBy_12 rfl f_9_65 h_37 rfl rfl rfl ?_
    refine e_iconst (pc' := 16) dX9_toldBy_15 rfl ?_
    refine e_istore_n (pc' := 17) (L' := [some (rv 37), some (rv 30), some (iv 0), none]) dX9_toldBy_16 rfl (by decide) rfl ?_
    exact l_toldBy_30 t hS hr1 hr2 hr3 hr4 ⟨hfl1, hfl2⟩ hn hst (by omega) (σ.1 30 3 + 1).toNat _ _ _ (by omega) (by omega) (by omega) ⟨rfl, trivial, Nat.zero_le _⟩ hS (fr_I Fr.rf (by decide))
  · refine e_iconst (pc' := 9) dX9_toldBy_8 rfl ?_
    exact e_iret dX9_toldBy_9 rfl ⟨rfl, Nat.le_refl _⟩ ⟨_, rfl, by unfold tlS; rw [if_neg (by omega)], Fr.rf⟩
