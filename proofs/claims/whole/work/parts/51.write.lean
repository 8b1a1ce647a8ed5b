/-- a rule as its text makes it -/
def RuI (σ : SG) (r : Nat) : Prop := ∃ nn : Nat, nn ≤ 40 ∧ σ.1 r 2 = (nn : Int) ∧ (∀ j, 0 ≤ j → j < 40 → chr7 (σ.1 (r + 1) j)) ∧ σ.1 r 3 = ((fnS (σ.1 (r + 1)) nn).1.length : Int) ∧ σ.1 r 4 = (fnS (σ.1 (r + 1)) nn).2.2.2.2.2 ∧ isLst (σ.1 (r + 2)) (fnS (σ.1 (r + 1)) nn).1
def WrI (σ σ' : SG) (r : Nat) (c : Int) : Prop := σ'.1 r 2 = σ.1 r 2 + 1 ∧ σ'.1 (r + 1) = updA (σ.1 (r + 1)) (σ.1 r 2) c ∧ RuI σ' r ∧ Fr [35, 36, r, r + 1, r + 2] σ σ'
def ErI (σ σ' : SG) (r : Nat) : Prop := σ'.1 r 2 = 0 ∧ σ'.1 (r + 1) = σ.1 (r + 1) ∧ RuI σ' r ∧ Fr [35, 36, r, r + 1, r + 2] σ σ'
theorem upI_fn {τ : SG} {q : Nat} {i v : Int} : (upI τ q i v).1 q = updA (τ.1 q) i v := by
  funext j
  simp only [upI, updA, true_and]
theorem updA_ok {f : Int → Int} {i v : Int} (h : ∀ j, 0 ≤ j → j < 40 → chr7 (f j)) (hv : chr7 v) : ∀ j, 0 ≤ j → j < 40 → chr7 (updA f i v j) := by
  intro j a b
  unfold updA
  split
  · exact hv
  · exact h j a b

set_option maxHeartbeats 4000000 in
set_option maxRecDepth 100000 in
theorem l_write_8 {X : AX} {d : Nat} {σ : SG} (c : Int) (hc : chr7 c) (hu : RuI σ 8) : Ev X 0 0 (d + 6) mX10_write 19 [some (rv 0), some (iv 0), some (iv c), none] [] σ (QI (fun v σ' => if 40 ≤ σ.1 8 2 then (v = -4 ∧ σ' = σ) else (v = σ.1 8 2 + 1 ∧ WrI σ σ' 8 c))) := by
  obtain ⟨nn, hnn, hn, hT, hu3, hu4, hu5⟩ := hu
  refine e_aload_n (pc' := 20) dX10_write_19 rfl rfl ?_
  refine e_getR (pc' := 23) dX10_write_20 rfl f_10_10 h_0 rfl ?_
  refine e_getR (pc' := 26) dX10_write_23 rfl f_10_133 h_1 rfl ?_
  refine e_iload_n (pc' := 27) dX10_write_26 rfl rfl ?_
  refine e_aald (pc' := 28) (k := 8) dX10_write_27 rfl h_7 (by decide) (by decide) (by omega) (by omega) rfl ?_
  refine e_astore_n (pc' := 29) (L' := [some (rv 0), some (iv 0), some (iv c), some (rv 8)]) dX10_write_28 rfl (by decide) rfl ?_
  refine e_aload_n (pc' := 30) dX10_write_29 rfl rfl ?_
  refine e_getI (pc' := 33) (v := (nn : Int)) dX10_write_30 rfl f_10_137 h_8 rfl hn ?_
  refine e_bipush (pc' := 35) (z := 40) dX10_write_33 rfl (by decide) ?_
  refine e_icmpI (pc' := 38) (t := 41) dX10_write_35 (by decide) rfl ⟨by omega, by omega⟩ ⟨by omega, by omega⟩ (fun (c2_1 : ((nn : Int) : Int) < 40) => ?_) (fun (c2_1 : ¬ (((nn : Int) : Int) < 40)) => ?_)
  · refine e_aload_n (pc' := 42) dX10_write_41 rfl rfl ?_
    refine e_getR (pc' := 45) dX10_write_42 rfl f_10_142 h_8 rfl ?_
    refine e_aload_n (pc' := 46) dX10_write_45 rfl rfl ?_
    refine e_getI (pc' := 49) (v := (nn : Int)) dX10_write_46 rfl f_10_137 h_8 rfl hn ?_
    refine e_iload_n (pc' := 50) dX10_write_49 rfl rfl ?_
    refine e_iast (pc' := 51) dX10_write_50 rfl h_9 (by decide) (by omega) (by omega) ?_
    refine e_aload_n (pc' := 52) dX10_write_51 rfl rfl ?_
    refine e_dup (pc' := 53) dX10_write_52 rfl rfl ?_
    refine e_getI (pc' := 56) (v := (nn : Int)) dX10_write_53 rfl f_10_137 h_8 rfl hn ?_
    refine e_iconst (pc' := 57) dX10_write_56 rfl ?_
    refine e_iadd (pc' := 58) dX10_write_57 rfl ?_
    refine e_putI (pc' := 61) dX10_write_58 rfl f_10_137 h_8 rfl rfl rfl ?_
    have hF1 : Fr [35, 36, 8, 9, 10] σ (upI (upI σ 9 (nn : Int) c) 8 2 ((nn : Int) + 1)) := fr_I (fr_I Fr.rf (by decide)) (by decide)
    have hT1 : ∀ j, 0 ≤ j → j < 40 → chr7 ((upI (upI σ 9 (nn : Int) c) 8 2 ((nn : Int) + 1)).1 9 j) := by
      show ∀ j, 0 ≤ j → j < 40 → chr7 ((upI σ 9 (nn : Int) c).1 9 j)
      rw [upI_fn]
      exact updA_ok hT hc
    refine e_aload_n (pc' := 62) dX10_write_61 rfl rfl ?_
    refine e_getR (pc' := 65) dX10_write_62 rfl f_10_30 h_0 rfl ?_
    refine e_aload_n (pc' := 66) dX10_write_65 rfl rfl ?_
    refine e_cv1v (pc' := 69) dX10_write_66 rfl k_10_145 h_35 rfl (Nat.le_of_ble_eq_true rfl) rfl rfl ⟨rfl, rfl⟩ ⟨Nat.zero_le _, Nat.zero_le _⟩ (s_read_8 (nn + 1) (by omega) hT1 (by show (nn : Int) + 1 = _; omega)) ?_
    rintro τ2 ⟨hI2, hF2⟩
    have hT2 : τ2.1 9 = updA (σ.1 9) (σ.1 8 2) c := by rw [hn, ← upI_fn]; exact (hF2 9 (by decide)).1
    refine e_aload_n (pc' := 70) dX10_write_69 rfl rfl ?_
    refine e_getI (pc' := 73) (v := ((nn + 1 : Nat) : Int)) dX10_write_70 rfl f_10_137 h_8 rfl hI2.2.2.2.2.2.2.2.2 ?_
    exact e_iret dX10_write_73 rfl ⟨rfl, Nat.le_refl _⟩ ⟨_, rfl, by dsimp only; rw [if_neg (by omega)]; exact ⟨by omega, by rw [hn]; exact hI2.2.2.2.2.2.2.2.2.trans (by omega), hT2, ⟨nn + 1, by omega, hI2.2.2.2.2.2.2.2.2, by show ∀ j, 0 ≤ j → j < 40 → chr7 (τ2.1 9 j); rw [(hF2 9 (by decide)).1]; exact hT1, by show τ2.1 8 3 = ((fnS (τ2.1 9) (nn + 1)).1.length : Int); rw [(hF2 9 (by decide)).1]; exact hI2.2.2.2.2.2.1, by show τ2.1 8 4 = (fnS (τ2.1 9) (nn + 1)).2.2.2.2.2; rw [(hF2 9 (by decide)).1]; exact hI2.2.2.2.2.2.2.1, by show isLst (τ2.1 10) (fnS (τ2.1 9) (nn + 1)).1; rw [(hF2 9 (by decide)).1]; exact hI2.2.2.2.2.2.2.2.1⟩, hF1.tr (hF2.mono (by decide))⟩⟩
  · refine e_bipush (pc' := 40) (z := (-4)) dX10_write_38 rfl (by decide) ?_
    exact e_iret dX10_write_40 rfl ⟨rfl, Nat.le_refl _⟩ ⟨_, rfl, by dsimp only; rw [if_pos (by omega)]; exact ⟨rfl, rfl⟩⟩

set_option maxHeartbeats 4000000 in
set_option maxRecDepth 100000 in
theorem l_erase_8 {X : AX} {d : Nat} {σ : SG} (hu : RuI σ 8) : Ev X 0 0 (d + 6) mX10_erase 10 [some (rv 0), some (iv 0), none, none] [] σ (QI (fun v σ' => v = σ.1 8 2 ∧ ErI σ σ' 8)) := by
  obtain ⟨nn, hnn, hn, hT, hu3, hu4, hu5⟩ := hu
  refine e_aload_n (pc' := 11) dX10_erase_10 rfl rfl ?_
  refine e_getR (pc' := 14) dX10_erase_11 rfl f_10_10 h_0 rfl ?_
  refine e_getR (pc' := 17) dX10_erase_14 rfl f_10_133 h_1 rfl ?_
  refine e_iload_n (pc' := 18) dX10_erase_17 rfl rfl ?_
  refine e_aald (pc' := 19) (k := 8) dX10_erase_18 rfl h_7 (by decide) (by decide) (by omega) (by omega) rfl ?_
  refine e_astore_n (pc' := 20) (L' := [some (rv 0), some (iv 0), some (rv 8), none]) dX10_erase_19 rfl (by decide) rfl ?_
  refine e_aload_n (pc' := 21) dX10_erase_20 rfl rfl ?_
  refine e_getI (pc' := 24) (v := (nn : Int)) dX10_erase_21 rfl f_10_137 h_8 rfl hn ?_
  refine e_istore_n (pc' := 25) (L' := [some (rv 0), some (iv 0), some (rv 8), some (iv (nn : Int))]) dX10_erase_24 rfl (by decide) rfl ?_
  refine e_aload_n (pc' := 26) dX10_erase_25 rfl rfl ?_
  refine e_iconst (pc' := 27) dX10_erase_26 rfl ?_
  refine e_putI (pc' := 30) dX10_erase_27 rfl f_10_137 h_8 rfl rfl rfl ?_
  refine e_aload_n (pc' := 31) dX10_erase_30 rfl rfl ?_
  refine e_getR (pc' := 34) dX10_erase_31 rfl f_10_30 h_0 rfl ?_
  refine e_aload_n (pc' := 35) dX10_erase_34 rfl rfl ?_
  refine e_cv1v (pc' := 38) dX10_erase_35 rfl k_10_145 h_35 rfl (Nat.le_of_ble_eq_true rfl) rfl rfl ⟨rfl, rfl⟩ ⟨Nat.zero_le _, Nat.zero_le _⟩ (s_read_8 0 (by omega) hT rfl) ?_
  rintro τ2 ⟨hI2, hF2⟩
  have hT2 : τ2.1 9 = σ.1 9 := (hF2 9 (by decide)).1
  refine e_iload_n (pc' := 39) dX10_erase_38 rfl rfl ?_
  exact e_iret dX10_erase_39 rfl ⟨rfl, Nat.le_refl _⟩ ⟨_, rfl, hn.symm, hI2.2.2.2.2.2.2.2.2, hT2, ⟨0, by omega, hI2.2.2.2.2.2.2.2.2, by show ∀ j, 0 ≤ j → j < 40 → chr7 (τ2.1 9 j); rw [hT2]; exact hT, by show τ2.1 8 3 = ((fnS (τ2.1 9) 0).1.length : Int); rw [hT2]; exact hI2.2.2.2.2.2.1, by show τ2.1 8 4 = (fnS (τ2.1 9) 0).2.2.2.2.2; rw [hT2]; exact hI2.2.2.2.2.2.2.1, by show isLst (τ2.1 10) (fnS (τ2.1 9) 0).1; rw [hT2]; exact hI2.2.2.2.2.2.2.2.1⟩, (fr_I Fr.rf (by decide)).tr (hF2.mono (by decide))⟩

set_option maxHeartbeats 4000000 in
set_option maxRecDepth 100000 in
theorem l_write_11 {X : AX} {d : Nat} {σ : SG} (c : Int) (hc : chr7 c) (hu : RuI σ 11) : Ev X 0 0 (d + 6) mX10_write 19 [some (rv 0), some (iv 1), some (iv c), none] [] σ (QI (fun v σ' => if 40 ≤ σ.1 11 2 then (v = -4 ∧ σ' = σ) else (v = σ.1 11 2 + 1 ∧ WrI σ σ' 11 c))) := by
  obtain ⟨nn, hnn, hn, hT, hu3, hu4, hu5⟩ := hu
  refine e_aload_n (pc' := 20) dX10_write_19 rfl rfl ?_
  refine e_getR (pc' := 23) dX10_write_20 rfl f_10_10 h_0 rfl ?_
  refine e_getR (pc' := 26) dX10_write_23 rfl f_10_133 h_1 rfl ?_
  refine e_iload_n (pc' := 27) dX10_write_26 rfl rfl ?_
  refine e_aald (pc' := 28) (k := 11) dX10_write_27 rfl h_7 (by decide) (by decide) (by omega) (by omega) rfl ?_
  refine e_astore_n (pc' := 29) (L' := [some (rv 0), some (iv 1), some (iv c), some (rv 11)]) dX10_write_28 rfl (by decide) rfl ?_
  refine e_aload_n (pc' := 30) dX10_write_29 rfl rfl ?_
  refine e_getI (pc' := 33) (v := (nn : Int)) dX10_write_30 rfl f_10_137 h_11 rfl hn ?_
  refine e_bipush (pc' := 35) (z := 40) dX10_write_33 rfl (by decide) ?_
  refine e_icmpI (pc' := 38) (t := 41) dX10_write_35 (by decide) rfl ⟨by omega, by omega⟩ ⟨by omega, by omega⟩ (fun (c2_1 : ((nn : Int) : Int) < 40) => ?_) (fun (c2_1 : ¬ (((nn : Int) : Int) < 40)) => ?_)
  · refine e_aload_n (pc' := 42) dX10_write_41 rfl rfl ?_
    refine e_getR (pc' := 45) dX10_write_42 rfl f_10_142 h_11 rfl ?_
    refine e_aload_n (pc' := 46) dX10_write_45 rfl rfl ?_
    refine e_getI (pc' := 49) (v := (nn : Int)) dX10_write_46 rfl f_10_137 h_11 rfl hn ?_
    refine e_iload_n (pc' := 50) dX10_write_49 rfl rfl ?_
    refine e_iast (pc' := 51) dX10_write_50 rfl h_12 (by decide) (by omega) (by omega) ?_
    refine e_aload_n (pc' := 52) dX10_write_51 rfl rfl ?_
    refine e_dup (pc' := 53) dX10_write_52 rfl rfl ?_
    refine e_getI (pc' := 56) (v := (nn : Int)) dX10_write_53 rfl f_10_137 h_11 rfl hn ?_
    refine e_iconst (pc' := 57) dX10_write_56 rfl ?_
    refine e_iadd (pc' := 58) dX10_write_57 rfl ?_
    refine e_putI (pc' := 61) dX10_write_58 rfl f_10_137 h_11 rfl rfl rfl ?_
    have hF1 : Fr [35, 36, 11, 12, 13] σ (upI (upI σ 12 (nn : Int) c) 11 2 ((nn : Int) + 1)) := fr_I (fr_I Fr.rf (by decide)) (by decide)
    have hT1 : ∀ j, 0 ≤ j → j < 40 → chr7 ((upI (upI σ 12 (nn : Int) c) 11 2 ((nn : Int) + 1)).1 12 j) := by
      show ∀ j, 0 ≤ j → j < 40 → chr7 ((upI σ 12 (nn : Int) c).1 12 j)
      rw [upI_fn]
      exact updA_ok hT hc
    refine e_aload_n (pc' := 62) dX10_write_61 rfl rfl ?_
    refine e_getR (pc' := 65) dX10_write_62 rfl f_10_30 h_0 rfl ?_
    refine e_aload_n (pc' := 66) dX10_write_65 rfl rfl ?_
    refine e_cv1v (pc' := 69) dX10_write_66 rfl k_10_145 h_35 rfl (Nat.le_of_ble_eq_true rfl) rfl rfl ⟨rfl, rfl⟩ ⟨Nat.zero_le _, Nat.zero_le _⟩ (s_read_11 (nn + 1) (by omega) hT1 (by show (nn : Int) + 1 = _; omega)) ?_
    rintro τ2 ⟨hI2, hF2⟩
    have hT2 : τ2.1 12 = updA (σ.1 12) (σ.1 11 2) c := by rw [hn, ← upI_fn]; exact (hF2 12 (by decide)).1
    refine e_aload_n (pc' := 70) dX10_write_69 rfl rfl ?_
    refine e_getI (pc' := 73) (v := ((nn + 1 : Nat) : Int)) dX10_write_70 rfl f_10_137 h_11 rfl hI2.2.2.2.2.2.2.2.2 ?_
    exact e_iret dX10_write_73 rfl ⟨rfl, Nat.le_refl _⟩ ⟨_, rfl, by dsimp only; rw [if_neg (by omega)]; exact ⟨by omega, by rw [hn]; exact hI2.2.2.2.2.2.2.2.2.trans (by omega), hT2, ⟨nn + 1, by omega, hI2.2.2.2.2.2.2.2.2, by show ∀ j, 0 ≤ j → j < 40 → chr7 (τ2.1 12 j); rw [(hF2 12 (by decide)).1]; exact hT1, by show τ2.1 11 3 = ((fnS (τ2.1 12) (nn + 1)).1.length : Int); rw [(hF2 12 (by decide)).1]; exact hI2.2.2.2.2.2.1, by show τ2.1 11 4 = (fnS (τ2.1 12) (nn + 1)).2.2.2.2.2; rw [(hF2 12 (by decide)).1]; exact hI2.2.2.2.2.2.2.1, by show isLst (τ2.1 13) (fnS (τ2.1 12) (nn + 1)).1; rw [(hF2 12 (by decide)).1]; exact hI2.2.2.2.2.2.2.2.1⟩, hF1.tr (hF2.mono (by decide))⟩⟩
  · refine e_bipush (pc' := 40) (z := (-4)) dX10_write_38 rfl (by decide) ?_
    exact e_iret dX10_write_40 rfl ⟨rfl, Nat.le_refl _⟩ ⟨_, rfl, by dsimp only; rw [if_pos (by omega)]; exact ⟨rfl, rfl⟩⟩

set_option maxHeartbeats 4000000 in
set_option maxRecDepth 100000 in
theorem l_erase_11 {X : AX} {d : Nat} {σ : SG} (hu : RuI σ 11) : Ev X 0 0 (d + 6) mX10_erase 10 [some (rv 0), some (iv 1), none, none] [] σ (QI (fun v σ' => v = σ.1 11 2 ∧ ErI σ σ' 11)) := by
  obtain ⟨nn, hnn, hn, hT, hu3, hu4, hu5⟩ := hu
  refine e_aload_n (pc' := 11) dX10_erase_10 rfl rfl ?_
  refine e_getR (pc' := 14) dX10_erase_11 rfl f_10_10 h_0 rfl ?_
  refine e_getR (pc' := 17) dX10_erase_14 rfl f_10_133 h_1 rfl ?_
  refine e_iload_n (pc' := 18) dX10_erase_17 rfl rfl ?_
  refine e_aald (pc' := 19) (k := 11) dX10_erase_18 rfl h_7 (by decide) (by decide) (by omega) (by omega) rfl ?_
  refine e_astore_n (pc' := 20) (L' := [some (rv 0), some (iv 1), some (rv 11), none]) dX10_erase_19 rfl (by decide) rfl ?_
  refine e_aload_n (pc' := 21) dX10_erase_20 rfl rfl ?_
  refine e_getI (pc' := 24) (v := (nn : Int)) dX10_erase_21 rfl f_10_137 h_11 rfl hn ?_
  refine e_istore_n (pc' := 25) (L' := [some (rv 0), some (iv 1), some (rv 11), some (iv (nn : Int))]) dX10_erase_24 rfl (by decide) rfl ?_
  refine e_aload_n (pc' := 26) dX10_erase_25 rfl rfl ?_
  refine e_iconst (pc' := 27) dX10_erase_26 rfl ?_
  refine e_putI (pc' := 30) dX10_erase_27 rfl f_10_137 h_11 rfl rfl rfl ?_
  refine e_aload_n (pc' := 31) dX10_erase_30 rfl rfl ?_
  refine e_getR (pc' := 34) dX10_erase_31 rfl f_10_30 h_0 rfl ?_
  refine e_aload_n (pc' := 35) dX10_erase_34 rfl rfl ?_
  refine e_cv1v (pc' := 38) dX10_erase_35 rfl k_10_145 h_35 rfl (Nat.le_of_ble_eq_true rfl) rfl rfl ⟨rfl, rfl⟩ ⟨Nat.zero_le _, Nat.zero_le _⟩ (s_read_11 0 (by omega) hT rfl) ?_
  rintro τ2 ⟨hI2, hF2⟩
  have hT2 : τ2.1 12 = σ.1 12 := (hF2 12 (by decide)).1
  refine e_iload_n (pc' := 39) dX10_erase_38 rfl rfl ?_
  exact e_iret dX10_erase_39 rfl ⟨rfl, Nat.le_refl _⟩ ⟨_, rfl, hn.symm, hI2.2.2.2.2.2.2.2.2, hT2, ⟨0, by omega, hI2.2.2.2.2.2.2.2.2, by show ∀ j, 0 ≤ j → j < 40 → chr7 (τ2.1 12 j); rw [hT2]; exact hT, by show τ2.1 11 3 = ((fnS (τ2.1 12) 0).1.length : Int); rw [hT2]; exact hI2.2.2.2.2.2.1, by show τ2.1 11 4 = (fnS (τ2.1 12) 0).2.2.2.2.2; rw [hT2]; exact hI2.2.2.2.2.2.2.1, by show isLst (τ2.1 13) (fnS (τ2.1 12) 0).1; rw [hT2]; exact hI2.2.2.2.2.2.2.2.1⟩, (fr_I Fr.rf (by decide)).tr (hF2.mono (by decide))⟩

set_option maxHeartbeats 4000000 in
set_option maxRecDepth 100000 in
theorem l_write_14 {X : AX} {d : Nat} {σ : SG} (c : Int) (hc : chr7 c) (hu : RuI σ 14) : Ev X 0 0 (d + 6) mX10_write 19 [some (rv 0), some (iv 2), some (iv c), none] [] σ (QI (fun v σ' => if 40 ≤ σ.1 14 2 then (v = -4 ∧ σ' = σ) else (v = σ.1 14 2 + 1 ∧ WrI σ σ' 14 c))) := by
  obtain ⟨nn, hnn, hn, hT, hu3, hu4, hu5⟩ := hu
  refine e_aload_n (pc' := 20) dX10_write_19 rfl rfl ?_
  refine e_getR (pc' := 23) dX10_write_20 rfl f_10_10 h_0 rfl ?_
  refine e_getR (pc' := 26) dX10_write_23 rfl f_10_133 h_1 rfl ?_
  refine e_iload_n (pc' := 27) dX10_write_26 rfl rfl ?_
  refine e_aald (pc' := 28) (k := 14) dX10_write_27 rfl h_7 (by decide) (by decide) (by omega) (by omega) rfl ?_
  refine e_astore_n (pc' := 29) (L' := [some (rv 0), some (iv 2), some (iv c), some (rv 14)]) dX10_write_28 rfl (by decide) rfl ?_
  refine e_aload_n (pc' := 30) dX10_write_29 rfl rfl ?_
  refine e_getI (pc' := 33) (v := (nn : Int)) dX10_write_30 rfl f_10_137 h_14 rfl hn ?_
  refine e_bipush (pc' := 35) (z := 40) dX10_write_33 rfl (by decide) ?_
  refine e_icmpI (pc' := 38) (t := 41) dX10_write_35 (by decide) rfl ⟨by omega, by omega⟩ ⟨by omega, by omega⟩ (fun (c2_1 : ((nn : Int) : Int) < 40) => ?_) (fun (c2_1 : ¬ (((nn : Int) : Int) < 40)) => ?_)
  · refine e_aload_n (pc' := 42) dX10_write_41 rfl rfl ?_
    refine e_getR (pc' := 45) dX10_write_42 rfl f_10_142 h_14 rfl ?_
    refine e_aload_n (pc' := 46) dX10_write_45 rfl rfl ?_
    refine e_getI (pc' := 49) (v := (nn : Int)) dX10_write_46 rfl f_10_137 h_14 rfl hn ?_
    refine e_iload_n (pc' := 50) dX10_write_49 rfl rfl ?_
    refine e_iast (pc' := 51) dX10_write_50 rfl h_15 (by decide) (by omega) (by omega) ?_
    refine e_aload_n (pc' := 52) dX10_write_51 rfl rfl ?_
    refine e_dup (pc' := 53) dX10_write_52 rfl rfl ?_
    refine e_getI (pc' := 56) (v := (nn : Int)) dX10_write_53 rfl f_10_137 h_14 rfl hn ?_
    refine e_iconst (pc' := 57) dX10_write_56 rfl ?_
    refine e_iadd (pc' := 58) dX10_write_57 rfl ?_
    refine e_putI (pc' := 61) dX10_write_58 rfl f_10_137 h_14 rfl rfl rfl ?_
    have hF1 : Fr [35, 36, 14, 15, 16] σ (upI (upI σ 15 (nn : Int) c) 14 2 ((nn : Int) + 1)) := fr_I (fr_I Fr.rf (by decide)) (by decide)
    have hT1 : ∀ j, 0 ≤ j → j < 40 → chr7 ((upI (upI σ 15 (nn : Int) c) 14 2 ((nn : Int) + 1)).1 15 j) := by
      show ∀ j, 0 ≤ j → j < 40 → chr7 ((upI σ 15 (nn : Int) c).1 15 j)
      rw [upI_fn]
      exact updA_ok hT hc
    refine e_aload_n (pc' := 62) dX10_write_61 rfl rfl ?_
    refine e_getR (pc' := 65) dX10_write_62 rfl f_10_30 h_0 rfl ?_
    refine e_aload_n (pc' := 66) dX10_write_65 rfl rfl ?_
    refine e_cv1v (pc' := 69) dX10_write_66 rfl k_10_145 h_35 rfl (Nat.le_of_ble_eq_true rfl) rfl rfl ⟨rfl, rfl⟩ ⟨Nat.zero_le _, Nat.zero_le _⟩ (s_read_14 (nn + 1) (by omega) hT1 (by show (nn : Int) + 1 = _; omega)) ?_
    rintro τ2 ⟨hI2, hF2⟩
    have hT2 : τ2.1 15 = updA (σ.1 15) (σ.1 14 2) c := by rw [hn, ← upI_fn]; exact (hF2 15 (by decide)).1
    refine e_aload_n (pc' := 70) dX10_write_69 rfl rfl ?_
    refine e_getI (pc' := 73) (v := ((nn + 1 : Nat) : Int)) dX10_write_70 rfl f_10_137 h_14 rfl hI2.2.2.2.2.2.2.2.2 ?_
    exact e_iret dX10_write_73 rfl ⟨rfl, Nat.le_refl _⟩ ⟨_, rfl, by dsimp only; rw [if_neg (by omega)]; exact ⟨by omega, by rw [hn]; exact hI2.2.2.2.2.2.2.2.2.trans (by omega), hT2, ⟨nn + 1, by omega, hI2.2.2.2.2.2.2.2.2, by show ∀ j, 0 ≤ j → j < 40 → chr7 (τ2.1 15 j); rw [(hF2 15 (by decide)).1]; exact hT1, by show τ2.1 14 3 = ((fnS (τ2.1 15) (nn + 1)).1.length : Int); rw [(hF2 15 (by decide)).1]; exact hI2.2.2.2.2.2.1, by show τ2.1 14 4 = (fnS (τ2.1 15) (nn + 1)).2.2.2.2.2; rw [(hF2 15 (by decide)).1]; exact hI2.2.2.2.2.2.2.1, by show isLst (τ2.1 16) (fnS (τ2.1 15) (nn + 1)).1; rw [(hF2 15 (by decide)).1]; exact hI2.2.2.2.2.2.2.2.1⟩, hF1.tr (hF2.mono (by decide))⟩⟩
  · refine e_bipush (pc' := 40) (z := (-4)) dX10_write_38 rfl (by decide) ?_
    exact e_iret dX10_write_40 rfl ⟨rfl, Nat.le_refl _⟩ ⟨_, rfl, by dsimp only; rw [if_pos (by omega)]; exact ⟨rfl, rfl⟩⟩

set_option maxHeartbeats 4000000 in
set_option maxRecDepth 100000 in
theorem l_erase_14 {X : AX} {d : Nat} {σ : SG} (hu : RuI σ 14) : Ev X 0 0 (d + 6) mX10_erase 10 [some (rv 0), some (iv 2), none, none] [] σ (QI (fun v σ' => v = σ.1 14 2 ∧ ErI σ σ' 14)) := by
  obtain ⟨nn, hnn, hn, hT, hu3, hu4, hu5⟩ := hu
  refine e_aload_n (pc' := 11) dX10_erase_10 rfl rfl ?_
  refine e_getR (pc' := 14) dX10_erase_11 rfl f_10_10 h_0 rfl ?_
  refine e_getR (pc' := 17) dX10_erase_14 rfl f_10_133 h_1 rfl ?_
  refine e_iload_n (pc' := 18) dX10_erase_17 rfl rfl ?_
  refine e_aald (pc' := 19) (k := 14) dX10_erase_18 rfl h_7 (by decide) (by decide) (by omega) (by omega) rfl ?_
  refine e_astore_n (pc' := 20) (L' := [some (rv 0), some (iv 2), some (rv 14), none]) dX10_erase_19 rfl (by decide) rfl ?_
  refine e_aload_n (pc' := 21) dX10_erase_20 rfl rfl ?_
  refine e_getI (pc' := 24) (v := (nn : Int)) dX10_erase_21 rfl f_10_137 h_14 rfl hn ?_
  refine e_istore_n (pc' := 25) (L' := [some (rv 0), some (iv 2), some (rv 14), some (iv (nn : Int))]) dX10_erase_24 rfl (by decide) rfl ?_
  refine e_aload_n (pc' := 26) dX10_erase_25 rfl rfl ?_
  refine e_iconst (pc' := 27) dX10_erase_26 rfl ?_
  refine e_putI (pc' := 30) dX10_erase_27 rfl f_10_137 h_14 rfl rfl rfl ?_
  refine e_aload_n (pc' := 31) dX10_erase_30 rfl rfl ?_
  refine e_getR (pc' := 34) dX10_erase_31 rfl f_10_30 h_0 rfl ?_
  refine e_aload_n (pc' := 35) dX10_erase_34 rfl rfl ?_
  refine e_cv1v (pc' := 38) dX10_erase_35 rfl k_10_145 h_35 rfl (Nat.le_of_ble_eq_true rfl) rfl rfl ⟨rfl, rfl⟩ ⟨Nat.zero_le _, Nat.zero_le _⟩ (s_read_14 0 (by omega) hT rfl) ?_
  rintro τ2 ⟨hI2, hF2⟩
  have hT2 : τ2.1 15 = σ.1 15 := (hF2 15 (by decide)).1
  refine e_iload_n (pc' := 39) dX10_erase_38 rfl rfl ?_
  exact e_iret dX10_erase_39 rfl ⟨rfl, Nat.le_refl _⟩ ⟨_, rfl, hn.symm, hI2.2.2.2.2.2.2.2.2, hT2, ⟨0, by omega, hI2.2.2.2.2.2.2.2.2, by show ∀ j, 0 ≤ j → j < 40 → chr7 (τ2.1 15 j); rw [hT2]; exact hT, by show τ2.1 14 3 = ((fnS (τ2.1 15) 0).1.length : Int); rw [hT2]; exact hI2.2.2.2.2.2.1, by show τ2.1 14 4 = (fnS (τ2.1 15) 0).2.2.2.2.2; rw [hT2]; exact hI2.2.2.2.2.2.2.1, by show isLst (τ2.1 16) (fnS (τ2.1 15) 0).1; rw [hT2]; exact hI2.2.2.2.2.2.2.2.1⟩, (fr_I Fr.rf (by decide)).tr (hF2.mono (by decide))⟩

set_option maxHeartbeats 4000000 in
set_option maxRecDepth 100000 in
theorem s_write {X : AX} {d : Nat} {σ : SG} (h8 : RuI σ 8) (h11 : RuI σ 11) (h14 : RuI σ 14) (u c : Int) (hu : rg u) (hc : rg c) : Ev X 0 0 (d + 6) mX10_write 0 [some (rv 0), some (iv u), some (iv c), none] [] σ (QI (fun v σ' => if (0 ≤ u ∧ u ≤ 2) ∧ (0 ≤ c ∧ c ≤ 127) then (if 40 ≤ σ.1 (rcN 1 u) 2 then (v = -4 ∧ σ' = σ) else (v = σ.1 (rcN 1 u) 2 + 1 ∧ WrI σ σ' (rcN 1 u) c)) else (v = -2 ∧ σ' = σ))) := by
  obtain ⟨hu1, hu2⟩ := hu
  obtain ⟨hc1, hc2⟩ := hc
  refine e_iload_n (pc' := 1) dX10_write_0 rfl rfl ?_
  refine e_cs1i (pc' := 4) dX10_write_1 rfl pn_10_129 k_10_129 (Nat.le_of_ble_eq_true rfl) rfl rfl ⟨rfl, rfl⟩ ⟨Nat.zero_le _, Nat.zero_le _⟩ (s_isRule u ⟨by omega, by omega⟩) ?_
  intro r σ' hr; rw [hr.1, hr.2]; clear hr
  refine e_ifI (pc' := 7) (t := 16) dX10_write_4 (by decide) rfl ⟨by first | omega | (split <;> omega), by first | omega | (split <;> omega)⟩ (fun (c2_1 : ((if 0 ≤ u ∧ u ≤ 2 then 1 else 0) : Int) = 0) => ?_) (fun (c2_1 : ¬ (((if 0 ≤ u ∧ u ≤ 2 then 1 else 0) : Int) = 0)) => ?_)
  · have c2_1n : ¬ (0 ≤ u ∧ u ≤ 2) := fun q => absurd (if_pos q : (if 0 ≤ u ∧ u ≤ 2 then (1 : Int) else 0) = 1) (by have := c2_1; omega)
    refine e_bipush (pc' := 18) (z := (-2)) dX10_write_16 rfl (by decide) ?_
    exact e_iret dX10_write_18 rfl ⟨rfl, Nat.le_refl _⟩ ⟨_, rfl, by dsimp only; rw [if_neg (by omega)]; exact ⟨rfl, rfl⟩⟩
  · have c2_1n : 0 ≤ u ∧ u ≤ 2 := Classical.byContradiction (fun q => absurd (if_neg q : (if 0 ≤ u ∧ u ≤ 2 then (1 : Int) else 0) = 0) (by have := c2_1; omega))
    refine e_iload_n (pc' := 8) dX10_write_7 rfl rfl ?_
    refine e_bipush (pc' := 10) (z := 127) dX10_write_8 rfl (by decide) ?_
    refine e_cs2i (pc' := 13) dX10_write_10 rfl pn_10_89 k_10_89 (Nat.le_of_ble_eq_true rfl) rfl rfl ⟨rfl, rfl⟩ ⟨Nat.zero_le _, Nat.zero_le _⟩ (s_isWithin c 127 ⟨by omega, by omega⟩ ⟨by omega, by omega⟩) ?_
    intro r σ' hr; rw [hr.1, hr.2]; clear hr
    refine e_ifI (pc' := 16) (t := 19) dX10_write_13 (by decide) rfl ⟨by first | omega | (split <;> omega), by first | omega | (split <;> omega)⟩ (fun (c4_2 : ((if 0 ≤ c ∧ c ≤ 127 then 1 else 0) : Int) ≠ 0) => ?_) (fun (c4_2 : ¬ (((if 0 ≤ c ∧ c ≤ 127 then 1 else 0) : Int) ≠ 0)) => ?_)
    · have c4_2n : 0 ≤ c ∧ c ≤ 127 := Classical.byContradiction (fun q => absurd (if_neg q : (if 0 ≤ c ∧ c ≤ 127 then (1 : Int) else 0) = 0) (by have := c4_2; omega))
      have h2 : u = 0 ∨ u = 1 ∨ u = 2 := by omega
      rcases h2 with rfl | rfl | rfl
      · refine Ev.imp (l_write_8 c ⟨by omega, by omega⟩ h8) ?_
        rintro v σ' ⟨z, rfl, h⟩
        exact ⟨z, rfl, Eq.mpr (if_pos ⟨by decide, by omega⟩) h⟩
      · refine Ev.imp (l_write_11 c ⟨by omega, by omega⟩ h11) ?_
        rintro v σ' ⟨z, rfl, h⟩
        exact ⟨z, rfl, Eq.mpr (if_pos ⟨by decide, by omega⟩) h⟩
      · refine Ev.imp (l_write_14 c ⟨by omega, by omega⟩ h14) ?_
        rintro v σ' ⟨z, rfl, h⟩
        exact ⟨z, rfl, Eq.mpr (if_pos ⟨by decide, by omega⟩) h⟩
    · have c4_2n : ¬ (0 ≤ c ∧ c ≤ 127) := fun q => absurd (if_pos q : (if 0 ≤ c ∧ c ≤ 127 then (1 : Int) else 0) = 1) (by have := c4_2; omega)
      refine e_bipush (pc' := 18) (z := (-2)) dX10_write_16 rfl (by decide) ?_
      exact e_iret dX10_write_18 rfl ⟨rfl, Nat.le_refl _⟩ ⟨_, rfl, by dsimp only; rw [if_neg (by omega)]; exact ⟨rfl, rfl⟩⟩

set_option maxHeartbeats 4000000 in
set_option maxRecDepth 100000 in
theorem s_erase {X : AX} {d : Nat} {σ : SG} (h8 : RuI σ 8) (h11 : RuI σ 11) (h14 : RuI σ 14) (u : Int) (hu : rg u) : Ev X 0 0 (d + 6) mX10_erase 0 [some (rv 0), some (iv u), none, none] [] σ (QI (fun v σ' => if 0 ≤ u ∧ u ≤ 2 then (v = σ.1 (rcN 1 u) 2 ∧ ErI σ σ' (rcN 1 u)) else (v = -2 ∧ σ' = σ))) := by
  obtain ⟨hu1, hu2⟩ := hu
  refine e_iload_n (pc' := 1) dX10_erase_0 rfl rfl ?_
  refine e_cs1i (pc' := 4) dX10_erase_1 rfl pn_10_129 k_10_129 (Nat.le_of_ble_eq_true rfl) rfl rfl ⟨rfl, rfl⟩ ⟨Nat.zero_le _, Nat.zero_le _⟩ (s_isRule u ⟨by omega, by omega⟩) ?_
  intro r σ' hr; rw [hr.1, hr.2]; clear hr
  refine e_ifI (pc' := 7) (t := 10) dX10_erase_4 (by decide) rfl ⟨by first | omega | (split <;> omega), by first | omega | (split <;> omega)⟩ (fun (c2_1 : ((if 0 ≤ u ∧ u ≤ 2 then 1 else 0) : Int) ≠ 0) => ?_) (fun (c2_1 : ¬ (((if 0 ≤ u ∧ u ≤ 2 then 1 else 0) : Int) ≠ 0)) => ?_)
  · have c2_1n : 0 ≤ u ∧ u ≤ 2 := Classical.byContradiction (fun q => absurd (if_neg q : (if 0 ≤ u ∧ u ≤ 2 then (1 : Int) else 0) = 0) (by have := c2_1; omega))
    have h2 : u = 0 ∨ u = 1 ∨ u = 2 := by omega
    rcases h2 with rfl | rfl | rfl
    · refine Ev.imp (l_erase_8  h8) ?_
      rintro v σ' ⟨z, rfl, h⟩
      exact ⟨z, rfl, Eq.mpr (if_pos (by decide)) h⟩
    · refine Ev.imp (l_erase_11  h11) ?_
      rintro v σ' ⟨z, rfl, h⟩
      exact ⟨z, rfl, Eq.mpr (if_pos (by decide)) h⟩
    · refine Ev.imp (l_erase_14  h14) ?_
      rintro v σ' ⟨z, rfl, h⟩
      exact ⟨z, rfl, Eq.mpr (if_pos (by decide)) h⟩
  · have c2_1n : ¬ (0 ≤ u ∧ u ≤ 2) := fun q => absurd (if_pos q : (if 0 ≤ u ∧ u ≤ 2 then (1 : Int) else 0) = 1) (by have := c2_1; omega)
    refine e_bipush (pc' := 9) (z := (-2)) dX10_erase_7 rfl (by decide) ?_
    exact e_iret dX10_erase_9 rfl ⟨rfl, Nat.le_refl _⟩ ⟨_, rfl, by dsimp only; rw [if_neg (by omega)]; exact ⟨rfl, rfl⟩⟩
