theorem sm_cg {f g : Int → Int} : ∀ n : Nat, (∀ i : Int, 0 ≤ i → i < (n : Int) → f i = g i) → sm f n = sm g n
  | 0, _ => rfl
  | n + 1, h => by
    show sm f n + f n = sm g n + g n
    rw [sm_cg n (fun i a b => h i a (by omega)), h n (by omega) (by omega)]

/-! the reference: what calls tell of the gifts as they are -/
theorem sm_5 {f u : Int → Int} {k : Int} (hk : 0 ≤ k ∧ k ≤ 5) (h : ∀ w, 0 ≤ w → w < k → f w = u w) (h0 : ∀ w, k ≤ w → w < 5 → u w = 0) : smI f k = u 0 + u 1 + u 2 + u 3 + u 4 := by
  have hc : k = 0 ∨ k = 1 ∨ k = 2 ∨ k = 3 ∨ k = 4 ∨ k = 5 := by omega
  rcases hc with rfl | rfl | rfl | rfl | rfl | rfl
  · show (0 : Int) = _
    rw [h0 0 (by omega) (by omega), h0 1 (by omega) (by omega), h0 2 (by omega) (by omega), h0 3 (by omega) (by omega), h0 4 (by omega) (by omega)]
    rfl
  · show 0 + f 0 = _
    rw [h 0 (by omega) (by omega), h0 1 (by omega) (by omega), h0 2 (by omega) (by omega), h0 3 (by omega) (by omega), h0 4 (by omega) (by omega)]
    omega
  · show 0 + f 0 + f 1 = _
    rw [h 0 (by omega) (by omega), h 1 (by omega) (by omega), h0 2 (by omega) (by omega), h0 3 (by omega) (by omega), h0 4 (by omega) (by omega)]
    omega
  · show 0 + f 0 + f 1 + f 2 = _
    rw [h 0 (by omega) (by omega), h 1 (by omega) (by omega), h 2 (by omega) (by omega), h0 3 (by omega) (by omega), h0 4 (by omega) (by omega)]
    omega
  · show 0 + f 0 + f 1 + f 2 + f 3 = _
    rw [h 0 (by omega) (by omega), h 1 (by omega) (by omega), h 2 (by omega) (by omega), h 3 (by omega) (by omega), h0 4 (by omega) (by omega)]
    omega
  · show 0 + f 0 + f 1 + f 2 + f 3 + f 4 = _
    rw [h 0 (by omega) (by omega), h 1 (by omega) (by omega), h 2 (by omega) (by omega), h 3 (by omega) (by omega), h 4 (by omega) (by omega)]
    omega
theorem smI_cg {f g : Int → Int} {k : Int} (h : ∀ i, 0 ≤ i → i < k → f i = g i) : smI f k = smI g k := by
  unfold smI
  exact sm_cg _ (fun i a b => h i a (by omega))

set_option maxHeartbeats 4000000 in
set_option maxRecDepth 100000 in
theorem l_m_allNow {X : AX} {d : Nat} {σ ρ : SG} {b : Nat} (h : MdI σ ρ b) (τ : SG) (hL1 : LgM τ ρ b (wdS ρ b)) (hF : Fr [88, 92, 93, 94, 95, 96, 97, 98, 99] σ τ) (hK : KA σ τ) (hM1 : MdI τ ρ b) : ∀ (k : Nat) (g cs : Int), 0 ≤ g → g ≤ (ρ.1 b 6) → (ρ.1 b 6) - g < k → cs = smI (fun g => bfS ρ b g) g → Ev X 0 0 (d + 7) mX11_allNow 8 [some (rv 88), some (iv cs), some (iv g)] [] τ (QI (fun r σ' => r = smI (fun g => bfS ρ b g) (ρ.1 b 6) ∧ Fr [88, 92, 93, 94, 95, 96, 97, 98, 99] σ σ' ∧ KA σ σ' ∧ MdI σ' ρ b)) := by
  intro k
  induction k with
  | zero => intros; omega
  | succ k ih =>
  intro g cs hg0 hg1 hgk hc
  have ho := h.1
  have hX := h.2.1
  have hP := h.2.2.1
  have hG := ho.1
  have hW := ho.2.1
  refine e_iload_n (pc' := 9) dX11_allNow_8 rfl rfl ?_
  refine e_aload_n (pc' := 10) dX11_allNow_9 rfl rfl ?_
  refine e_cv0i (pc' := 13) dX11_allNow_10 rfl k_11_76 h_88 rfl (Nat.le_of_ble_eq_true rfl) rfl rfl ⟨rfl, rfl⟩ ⟨Nat.zero_le _, Nat.zero_le _⟩ s_m_givers ?_
  intro r σ' hr; rw [hr.1, hr.2, hM1.2.2.1.1.1]; clear hr
  refine e_icmpI (pc' := 16) (t := 30) dX11_allNow_13 (by decide) rfl ⟨by omega, by omega⟩ ⟨by omega, by omega⟩ (fun (c2_1 : (ρ.1 b 6) ≤ (g : Int)) => ?_) (fun (c2_1 : ¬ ((ρ.1 b 6) ≤ (g : Int))) => ?_)
  · refine e_iload_n (pc' := 31) dX11_allNow_30 rfl rfl ?_
    exact e_iret dX11_allNow_31 rfl ⟨rfl, Nat.le_refl _⟩ ⟨_, rfl, by rw [hc, show (ρ.1 b 6) = g by omega], hF, hK, hM1⟩
  · refine e_iload_n (pc' := 17) dX11_allNow_16 rfl rfl ?_
    refine e_aload_n (pc' := 18) dX11_allNow_17 rfl rfl ?_
    refine e_iload_n (pc' := 19) dX11_allNow_18 rfl rfl ?_
    refine e_cv1i (pc' := 22) dX11_allNow_19 rfl k_11_214 h_88 rfl (Nat.le_of_ble_eq_true rfl) rfl rfl ⟨rfl, rfl⟩ ⟨Nat.zero_le _, Nat.zero_le _⟩ (s_m_hasN hM1 hL1 g ⟨by omega, by omega⟩) ?_
    intro r σ' hr; rw [hr.1, hr.2]; clear hr
    refine e_iadd (pc' := 23) dX11_allNow_22 rfl ?_
    refine e_istore_n (pc' := 24) (L' := [some (rv 88), some (iv (cs + (bfS ρ b g))), some (iv g)]) dX11_allNow_23 rfl (by decide) rfl ?_
    refine e_iinc (pc' := 27) (L' := [some (rv 88), some (iv (cs + (bfS ρ b g))), some (iv (g + 1))]) dX11_allNow_24 rfl rfl (by decide) rfl ?_
    refine e_goto (pc' := 8) dX11_allNow_27 (by decide) ?_
    exact ih _ _ (by omega) (by omega) (by omega) (by rw [smI_s _ hg0, hc])

set_option maxHeartbeats 4000000 in
set_option maxRecDepth 100000 in
theorem s_m_allNow {X : AX} {d : Nat} {σ ρ : SG} {b : Nat} (h : MdI σ ρ b) : Ev X 0 0 (d + 7) mX11_allNow 0 [some (rv 88), none, none] [] σ (QI (fun r σ' => r = smI (fun g => bfS ρ b g) (ρ.1 b 6) ∧ Fr [88, 92, 93, 94, 95, 96, 97, 98, 99] σ σ' ∧ KA σ σ' ∧ MdI σ' ρ b)) := by
  have ho := h.1
  have hX := h.2.1
  have hP := h.2.2.1
  have hG := ho.1
  have hW := ho.2.1
  refine e_aload_n (pc' := 1) dX11_allNow_0 rfl rfl ?_
  refine e_cv0v (pc' := 4) dX11_allNow_1 rfl k_11_211 h_88 rfl (Nat.le_of_ble_eq_true rfl) rfl rfl ⟨rfl, rfl⟩ ⟨Nat.zero_le _, Nat.zero_le _⟩ (s_m_addUpN h) ?_
  rintro τ1 ⟨hL1, hE1, hK1, hM1⟩
  have hFF1 : Fr [88, 92, 93, 94, 95, 96, 97, 98, 99] σ τ1 := hE1
  refine e_iconst (pc' := 5) dX11_allNow_4 rfl ?_
  refine e_istore_n (pc' := 6) (L' := [some (rv 88), some (iv 0), none]) dX11_allNow_5 rfl (by decide) rfl ?_
  refine e_iconst (pc' := 7) dX11_allNow_6 rfl ?_
  refine e_istore_n (pc' := 8) (L' := [some (rv 88), some (iv 0), some (iv 0)]) dX11_allNow_7 rfl (by decide) rfl ?_
  exact l_m_allNow h τ1 hL1 hE1 hK1 hM1 ((ρ.1 b 6) + 1).toNat 0 0 (by omega) (by omega) (by omega) rfl

set_option maxHeartbeats 4000000 in
set_option maxRecDepth 100000 in
theorem s_m_amount {X : AX} {d : Nat} {σ ρ : SG} {b : Nat} (h : MdI σ ρ b) (w k : Int) (hw : rg w) (hk : rg k) : Ev X 0 0 (d + 7) mX11_amount 0 [some (rv 88), some (iv w), some (iv k)] [] σ (QI (fun r σ' => r = (if 0 ≤ w ∧ w < (ρ.1 b 7) then (if k = 0 then gfS ρ b w else if k = 1 then wdS ρ b w else if k = 2 then adS (ρ.1 b 11) (ρ.1 b 10) (wdS ρ b) w else if k = 3 then gfS ρ b w + adS (ρ.1 b 11) (ρ.1 b 10) (wdS ρ b) w else -2) else -2) ∧ Fr [88, 92, 93, 94, 95, 96, 97, 98, 99] σ σ' ∧ KA σ σ' ∧ MdI σ' ρ b)) := by
  have ho := h.1
  have hX := h.2.1
  have hP := h.2.2.1
  have hG := ho.1
  have hW := ho.2.1
  obtain ⟨hw1, hw2⟩ := hw
  obtain ⟨hk1, hk2⟩ := hk
  refine e_aload_n (pc' := 1) dX11_amount_0 rfl rfl ?_
  refine e_iload_n (pc' := 2) dX11_amount_1 rfl rfl ?_
  refine e_cv1i (pc' := 5) dX11_amount_2 rfl k_11_95 h_88 rfl (Nat.le_of_ble_eq_true rfl) rfl rfl ⟨rfl, rfl⟩ ⟨Nat.zero_le _, Nat.zero_le _⟩ (s_m_isWork w ⟨by omega, by omega⟩ (by rw [h.2.2.1.1.2.1]; exact hW)) ?_
  intro r σ' hr; rw [hr.1, hr.2, h.2.2.1.1.2.1]; clear hr
  refine e_ifI (pc' := 8) (t := 20) dX11_amount_5 (by decide) rfl ⟨by first | omega | (split <;> omega), by first | omega | (split <;> omega)⟩ (fun (c2_1 : ((if 0 ≤ w ∧ w < (ρ.1 b 7) then 1 else 0) : Int) = 0) => ?_) (fun (c2_1 : ¬ (((if 0 ≤ w ∧ w < (ρ.1 b 7) then 1 else 0) : Int) = 0)) => ?_)
  · have c2_1n : ¬ (0 ≤ w ∧ w < (ρ.1 b 7)) := fun hpq_ => absurd (if_pos hpq_ : (if 0 ≤ w ∧ w < (ρ.1 b 7) then (1 : Int) else 0) = 1) (by have := c2_1; omega)
    refine e_bipush (pc' := 22) (z := (-2)) dX11_amount_20 rfl (by decide) ?_
    exact e_iret dX11_amount_22 rfl ⟨rfl, Nat.le_refl _⟩ ⟨_, rfl, by first | (rw [if_neg (by omega)]; done) | (rw [if_pos (by omega), if_neg (by omega), if_neg (by omega), if_neg (by omega), if_neg (by omega)]), Fr.rf, KA.rf, h⟩
  · have c2_1n : 0 ≤ w ∧ w < (ρ.1 b 7) := Classical.byContradiction (fun hpq_ => absurd (if_neg hpq_ : (if 0 ≤ w ∧ w < (ρ.1 b 7) then (1 : Int) else 0) = 0) (by have := c2_1; omega))
    refine e_iload_n (pc' := 9) dX11_amount_8 rfl rfl ?_
    refine e_i2l (pc' := 10) dX11_amount_9 rfl ⟨by first | omega | (split <;> omega), by first | omega | (split <;> omega)⟩ ?_
    refine e_lconst (pc' := 11) (z := 0) dX11_amount_10 rfl rfl ?_
    refine e_ldc2 (pc' := 14) dX11_amount_11 rfl c_11_102 ?_
    refine e_cs3i (pc' := 17) dX11_amount_14 rfl pn_11_80 k_11_80 (Nat.le_of_ble_eq_true rfl) rfl rfl ⟨rfl, rfl⟩ ⟨Nat.zero_le _, Nat.zero_le _⟩ (s_m_in k 0 3 (i64_to ⟨by omega, by omega⟩) (by decide) (by decide)) ?_
    intro r σ' hr; rw [hr.1, hr.2]; clear hr
    refine e_ifI (pc' := 20) (t := 23) dX11_amount_17 (by decide) rfl ⟨by first | omega | (split <;> omega), by first | omega | (split <;> omega)⟩ (fun (c4_2 : ((if 0 ≤ k ∧ k ≤ 3 then 1 else 0) : Int) ≠ 0) => ?_) (fun (c4_2 : ¬ (((if 0 ≤ k ∧ k ≤ 3 then 1 else 0) : Int) ≠ 0)) => ?_)
    · have c4_2n : 0 ≤ k ∧ k ≤ 3 := Classical.byContradiction (fun hpq_ => absurd (if_neg hpq_ : (if 0 ≤ k ∧ k ≤ 3 then (1 : Int) else 0) = 0) (by have := c4_2; omega))
      refine e_aload_n (pc' := 24) dX11_amount_23 rfl rfl ?_
      refine e_cv0v (pc' := 27) dX11_amount_24 rfl k_11_211 h_88 rfl (Nat.le_of_ble_eq_true rfl) rfl rfl ⟨rfl, rfl⟩ ⟨Nat.zero_le _, Nat.zero_le _⟩ (s_m_addUpN h) ?_
      rintro τ1 ⟨hL1, hE1, hK1, hM1⟩
      have hFF1 : Fr [88, 92, 93, 94, 95, 96, 97, 98, 99] σ τ1 := hE1
      have hq := hL1 w (by omega) (by omega)
      refine e_iload_n (pc' := 28) dX11_amount_27 rfl rfl ?_
      refine e_ifI (pc' := 31) (t := 40) dX11_amount_28 (by decide) rfl ⟨by first | omega | (split <;> omega), by first | omega | (split <;> omega)⟩ (fun (c6_3 : (k : Int) ≠ 0) => ?_) (fun (c6_3 : ¬ ((k : Int) ≠ 0)) => ?_)
      · refine e_iload_n (pc' := 41) dX11_amount_40 rfl rfl ?_
        refine e_iconst (pc' := 42) dX11_amount_41 rfl ?_
        refine e_icmpI (pc' := 45) (t := 54) dX11_amount_42 (by decide) rfl ⟨by first | omega | (split <;> omega), by first | omega | (split <;> omega)⟩ ⟨by omega, by omega⟩ (fun (c8_4 : (k : Int) ≠ 1) => ?_) (fun (c8_4 : ¬ ((k : Int) ≠ 1)) => ?_)
        · refine e_iload_n (pc' := 55) dX11_amount_54 rfl rfl ?_
          refine e_iconst (pc' := 56) dX11_amount_55 rfl ?_
          refine e_icmpI (pc' := 59) (t := 68) dX11_amount_56 (by decide) rfl ⟨by first | omega | (split <;> omega), by first | omega | (split <;> omega)⟩ ⟨by omega, by omega⟩ (fun (c10_5 : (k : Int) ≠ 2) => ?_) (fun (c10_5 : ¬ ((k : Int) ≠ 2)) => ?_)
          · refine e_aload_n (pc' := 69) dX11_amount_68 rfl rfl ?_
            refine e_getR (pc' := 72) dX11_amount_69 rfl f_11_42 h_88 rfl ?_
            refine e_iload_n (pc' := 73) dX11_amount_72 rfl rfl ?_
            refine e_iald (pc' := 74) (v := (gfS ρ b w)) dX11_amount_73 rfl h_99 (by decide) (by omega) (by omega) hq.1 ?_
            refine e_aload_n (pc' := 75) dX11_amount_74 rfl rfl ?_
            refine e_getR (pc' := 78) dX11_amount_75 rfl f_11_39 h_88 rfl ?_
            refine e_iload_n (pc' := 79) dX11_amount_78 rfl rfl ?_
            refine e_iald (pc' := 80) (v := (adS (ρ.1 b 11) (ρ.1 b 10) (wdS ρ b) w)) dX11_amount_79 rfl h_98 (by decide) (by omega) (by omega) hq.2.2 ?_
            refine e_iadd (pc' := 81) dX11_amount_80 rfl ?_
            exact e_iret dX11_amount_81 rfl ⟨rfl, Nat.le_refl _⟩ ⟨_, rfl, by rw [if_pos (by omega)]; (repeat (first | (rw [if_pos (by omega)]) | (rw [if_neg (by omega)]))), hFF1, hK1, hM1⟩
          · refine e_aload_n (pc' := 60) dX11_amount_59 rfl rfl ?_
            refine e_getR (pc' := 63) dX11_amount_60 rfl f_11_39 h_88 rfl ?_
            refine e_iload_n (pc' := 64) dX11_amount_63 rfl rfl ?_
            refine e_iald (pc' := 65) (v := (adS (ρ.1 b 11) (ρ.1 b 10) (wdS ρ b) w)) dX11_amount_64 rfl h_98 (by decide) (by omega) (by omega) hq.2.2 ?_
            refine e_goto (pc' := 81) dX11_amount_65 (by decide) ?_
            exact e_iret dX11_amount_81 rfl ⟨rfl, Nat.le_refl _⟩ ⟨_, rfl, by rw [if_pos (by omega)]; (repeat (first | (rw [if_pos (by omega)]) | (rw [if_neg (by omega)]))), hFF1, hK1, hM1⟩
        · refine e_aload_n (pc' := 46) dX11_amount_45 rfl rfl ?_
          refine e_getR (pc' := 49) dX11_amount_46 rfl f_11_36 h_88 rfl ?_
          refine e_iload_n (pc' := 50) dX11_amount_49 rfl rfl ?_
          refine e_iald (pc' := 51) (v := (wdS ρ b w)) dX11_amount_50 rfl h_97 (by decide) (by omega) (by omega) hq.2.1 ?_
          refine e_goto (pc' := 81) dX11_amount_51 (by decide) ?_
          exact e_iret dX11_amount_81 rfl ⟨rfl, Nat.le_refl _⟩ ⟨_, rfl, by rw [if_pos (by omega)]; (repeat (first | (rw [if_pos (by omega)]) | (rw [if_neg (by omega)]))), hFF1, hK1, hM1⟩
      · refine e_aload_n (pc' := 32) dX11_amount_31 rfl rfl ?_
        refine e_getR (pc' := 35) dX11_amount_32 rfl f_11_42 h_88 rfl ?_
        refine e_iload_n (pc' := 36) dX11_amount_35 rfl rfl ?_
        refine e_iald (pc' := 37) (v := (gfS ρ b w)) dX11_amount_36 rfl h_99 (by decide) (by omega) (by omega) hq.1 ?_
        refine e_goto (pc' := 81) dX11_amount_37 (by decide) ?_
        exact e_iret dX11_amount_81 rfl ⟨rfl, Nat.le_refl _⟩ ⟨_, rfl, by rw [if_pos (by omega)]; (repeat (first | (rw [if_pos (by omega)]) | (rw [if_neg (by omega)]))), hFF1, hK1, hM1⟩
    · have c4_2n : ¬ (0 ≤ k ∧ k ≤ 3) := fun hpq_ => absurd (if_pos hpq_ : (if 0 ≤ k ∧ k ≤ 3 then (1 : Int) else 0) = 1) (by have := c4_2; omega)
      refine e_bipush (pc' := 22) (z := (-2)) dX11_amount_20 rfl (by decide) ?_
      exact e_iret dX11_amount_22 rfl ⟨rfl, Nat.le_refl _⟩ ⟨_, rfl, by first | (rw [if_neg (by omega)]; done) | (rw [if_pos (by omega), if_neg (by omega), if_neg (by omega), if_neg (by omega), if_neg (by omega)]), Fr.rf, KA.rf, h⟩

set_option maxHeartbeats 4000000 in
set_option maxRecDepth 100000 in
theorem l_m_isShort {X : AX} {d : Nat} {σ ρ : SG} {b : Nat} (h : MdI σ ρ b) (τ : SG) (hR : MrR (τ.1 89) ρ b) (hL1 : LgM τ ρ b (wdS ρ b)) (hF : Fr [88, 92, 93, 94, 95, 96, 97, 98, 99] σ τ) (hK : KA σ τ) (hM1 : MdI τ ρ b) : ∀ (k : Nat) (w cs : Int), 0 ≤ w → w ≤ (ρ.1 b 7) → (ρ.1 b 7) - w < k → cs = smI (wdS ρ b) w → Ev X 0 0 (d + 7) mX11_isShort 8 [some (rv 88), some (iv cs), some (iv w)] [] τ (QI (fun r σ' => r = (if wdS ρ b 0 + wdS ρ b 1 + wdS ρ b 2 ≤ ρ.1 b 10 then 0 else 1) ∧ Fr [88, 92, 93, 94, 95, 96, 97, 98, 99] σ σ' ∧ KA σ σ' ∧ MdI σ' ρ b)) := by
  intro k
  induction k with
  | zero => intros; omega
  | succ k ih =>
  intro w cs hw0 hw1 hwk hc
  have ho := h.1
  have hX := h.2.1
  have hP := h.2.2.1
  have hG := ho.1
  have hW := ho.2.1
  refine e_iload_n (pc' := 9) dX11_isShort_8 rfl rfl ?_
  refine e_aload_n (pc' := 10) dX11_isShort_9 rfl rfl ?_
  refine e_cv0i (pc' := 13) dX11_isShort_10 rfl k_11_84 h_88 rfl (Nat.le_of_ble_eq_true rfl) rfl rfl ⟨rfl, rfl⟩ ⟨Nat.zero_le _, Nat.zero_le _⟩ s_m_works ?_
  intro r σ' hr; rw [hr.1, hr.2, hM1.2.2.1.1.2.1]; clear hr
  refine e_icmpI (pc' := 16) (t := 31) dX11_isShort_13 (by decide) rfl (by first | exact ⟨by omega, by omega⟩ | exact hcr | exact ⟨by have := ho.2.2.2.2.1; omega, by have := ho.2.2.2.2.1; omega⟩) (by first | exact ⟨by omega, by omega⟩ | exact hcr | exact ⟨by have := ho.2.2.2.2.1; omega, by have := ho.2.2.2.2.1; omega⟩) (fun (c2_1 : (ρ.1 b 7) ≤ (w : Int)) => ?_) (fun (c2_1 : ¬ ((ρ.1 b 7) ≤ (w : Int))) => ?_)
  · have hsum : cs = wdS ρ b 0 + wdS ρ b 1 + wdS ρ b 2 := by
      rw [hc, show w = (ρ.1 b 7) by omega]
      exact sm_3 (u := wdS ρ b) hW (fun _ _ _ => rfl) (fun v a c => by unfold wdS; rw [if_neg (by omega)])
    have w0 := wdS_rg ρ b 0
    have w1 := wdS_rg ρ b 1
    have w2 := wdS_rg ρ b 2
    refine e_iload_n (pc' := 32) dX11_isShort_31 rfl rfl ?_
    refine e_aload_n (pc' := 33) dX11_isShort_32 rfl rfl ?_
    refine e_getR (pc' := 36) dX11_isShort_33 rfl f_11_7 h_88 rfl ?_
    refine e_bipush (pc' := 38) (z := 55) dX11_isShort_36 rfl (by decide) ?_
    refine e_iald (pc' := 39) (v := (ρ.1 b 10)) dX11_isShort_38 rfl h_89 (by decide) (by omega) (by omega) hR.1.2.1 ?_
    refine e_icmpI (pc' := 42) (t := 46) dX11_isShort_39 (by decide) rfl (by first | exact ⟨by omega, by omega⟩ | exact hcr | exact ⟨by have := ho.2.2.2.2.1; omega, by have := ho.2.2.2.2.1; omega⟩) (by first | exact ⟨by omega, by omega⟩ | exact hcr | exact ⟨by have := ho.2.2.2.2.1; omega, by have := ho.2.2.2.2.1; omega⟩) (fun (c4_2 : (cs : Int) ≤ (ρ.1 b 10)) => ?_) (fun (c4_2 : ¬ ((cs : Int) ≤ (ρ.1 b 10))) => ?_)
    · refine e_iconst (pc' := 47) dX11_isShort_46 rfl ?_
      exact e_iret dX11_isShort_47 rfl ⟨rfl, Nat.le_refl _⟩ ⟨_, rfl, by rw [← hsum]; first | rw [if_pos (by omega)] | rw [if_neg (by omega)], hF, hK, hM1⟩
    · refine e_iconst (pc' := 43) dX11_isShort_42 rfl ?_
      refine e_goto (pc' := 47) dX11_isShort_43 (by decide) ?_
      exact e_iret dX11_isShort_47 rfl ⟨rfl, Nat.le_refl _⟩ ⟨_, rfl, by rw [← hsum]; first | rw [if_pos (by omega)] | rw [if_neg (by omega)], hF, hK, hM1⟩
  · have hq := hL1 w (by omega) (by omega)
    refine e_iload_n (pc' := 17) dX11_isShort_16 rfl rfl ?_
    refine e_aload_n (pc' := 18) dX11_isShort_17 rfl rfl ?_
    refine e_getR (pc' := 21) dX11_isShort_18 rfl f_11_36 h_88 rfl ?_
    refine e_iload_n (pc' := 22) dX11_isShort_21 rfl rfl ?_
    refine e_iald (pc' := 23) (v := (wdS ρ b w)) dX11_isShort_22 rfl h_97 (by decide) (by omega) (by omega) hq.2.1 ?_
    refine e_iadd (pc' := 24) dX11_isShort_23 rfl ?_
    refine e_istore_n (pc' := 25) (L' := [some (rv 88), some (iv (cs + (wdS ρ b w))), some (iv w)]) dX11_isShort_24 rfl (by decide) rfl ?_
    refine e_iinc (pc' := 28) (L' := [some (rv 88), some (iv (cs + (wdS ρ b w))), some (iv (w + 1))]) dX11_isShort_25 rfl rfl (by decide) rfl ?_
    refine e_goto (pc' := 8) dX11_isShort_28 (by decide) ?_
    exact ih _ _ (by omega) (by omega) (by omega) (by rw [smI_s _ hw0, hc])

set_option maxHeartbeats 4000000 in
set_option maxRecDepth 100000 in
theorem s_m_isShort {X : AX} {d : Nat} {σ ρ : SG} {b : Nat} (h : MdI σ ρ b) (hR : MrR (σ.1 89) ρ b) : Ev X 0 0 (d + 7) mX11_isShort 0 [some (rv 88), none, none] [] σ (QI (fun r σ' => r = (if wdS ρ b 0 + wdS ρ b 1 + wdS ρ b 2 ≤ ρ.1 b 10 then 0 else 1) ∧ Fr [88, 92, 93, 94, 95, 96, 97, 98, 99] σ σ' ∧ KA σ σ' ∧ MdI σ' ρ b)) := by
  have ho := h.1
  have hX := h.2.1
  have hP := h.2.2.1
  have hG := ho.1
  have hW := ho.2.1
  refine e_aload_n (pc' := 1) dX11_isShort_0 rfl rfl ?_
  refine e_cv0v (pc' := 4) dX11_isShort_1 rfl k_11_211 h_88 rfl (Nat.le_of_ble_eq_true rfl) rfl rfl ⟨rfl, rfl⟩ ⟨Nat.zero_le _, Nat.zero_le _⟩ (s_m_addUpN h) ?_
  rintro τ1 ⟨hL1, hE1, hK1, hM1⟩
  have hFF1 : Fr [88, 92, 93, 94, 95, 96, 97, 98, 99] σ τ1 := hE1
  refine e_iconst (pc' := 5) dX11_isShort_4 rfl ?_
  refine e_istore_n (pc' := 6) (L' := [some (rv 88), some (iv 0), none]) dX11_isShort_5 rfl (by decide) rfl ?_
  refine e_iconst (pc' := 7) dX11_isShort_6 rfl ?_
  refine e_istore_n (pc' := 8) (L' := [some (rv 88), some (iv 0), some (iv 0)]) dX11_isShort_7 rfl (by decide) rfl ?_
  exact l_m_isShort h τ1 (by rw [(hE1 89 (by decide)).1]; exact hR) hL1 hE1 hK1 hM1 ((ρ.1 b 7) + 1).toNat 0 0 (by omega) (by omega) (by omega) rfl

set_option maxHeartbeats 4000000 in
set_option maxRecDepth 100000 in
theorem s_m_has {X : AX} {d : Nat} {σ ρ : SG} {b : Nat} (h : MdI σ ρ b) (g : Int) (hg : rg g) : Ev X 0 0 (d + 8) mX11_has 0 [some (rv 88), some (iv g)] [] σ (QI (fun r σ' => r = (if g = -1 then smI (fun g => bfS ρ b g) (ρ.1 b 6) else if 0 ≤ g ∧ g < (ρ.1 b 6) then bfS ρ b g else -2) ∧ Fr [88, 92, 93, 94, 95, 96, 97, 98, 99] σ σ' ∧ KA σ σ' ∧ MdI σ' ρ b)) := by
  have ho := h.1
  have hX := h.2.1
  have hP := h.2.2.1
  have hG := ho.1
  have hW := ho.2.1
  obtain ⟨hg1, hg2⟩ := hg
  refine e_iload_n (pc' := 1) dX11_has_0 rfl rfl ?_
  refine e_iconst (pc' := 2) dX11_has_1 rfl ?_
  refine e_icmpI (pc' := 5) (t := 10) dX11_has_2 (by decide) rfl ⟨by first | omega | (split <;> omega), by first | omega | (split <;> omega)⟩ ⟨by omega, by omega⟩ (fun (c2_1 : (g : Int) ≠ (-1)) => ?_) (fun (c2_1 : ¬ ((g : Int) ≠ (-1))) => ?_)
  · refine e_aload_n (pc' := 11) dX11_has_10 rfl rfl ?_
    refine e_iload_n (pc' := 12) dX11_has_11 rfl rfl ?_
    refine e_cv1i (pc' := 15) dX11_has_12 rfl k_11_91 h_88 rfl (Nat.le_of_ble_eq_true rfl) rfl rfl ⟨rfl, rfl⟩ ⟨Nat.zero_le _, Nat.zero_le _⟩ (s_m_isGiver g ⟨by omega, by omega⟩ (by rw [h.2.2.1.1.1]; exact hG)) ?_
    intro r σ' hr; rw [hr.1, hr.2, h.2.2.1.1.1]; clear hr
    refine e_ifI (pc' := 18) (t := 21) dX11_has_15 (by decide) rfl ⟨by first | omega | (split <;> omega), by first | omega | (split <;> omega)⟩ (fun (c4_2 : ((if 0 ≤ g ∧ g < (ρ.1 b 6) then 1 else 0) : Int) ≠ 0) => ?_) (fun (c4_2 : ¬ (((if 0 ≤ g ∧ g < (ρ.1 b 6) then 1 else 0) : Int) ≠ 0)) => ?_)
    · have c4_2n : 0 ≤ g ∧ g < (ρ.1 b 6) := Classical.byContradiction (fun hpq_ => absurd (if_neg hpq_ : (if 0 ≤ g ∧ g < (ρ.1 b 6) then (1 : Int) else 0) = 0) (by have := c4_2; omega))
      refine e_aload_n (pc' := 22) dX11_has_21 rfl rfl ?_
      refine e_cv0v (pc' := 25) dX11_has_22 rfl k_11_211 h_88 rfl (Nat.le_of_ble_eq_true rfl) rfl rfl ⟨rfl, rfl⟩ ⟨Nat.zero_le _, Nat.zero_le _⟩ (s_m_addUpN h) ?_
      rintro τ1 ⟨hL1, hE1, hK1, hM1⟩
      have hFF1 : Fr [88, 92, 93, 94, 95, 96, 97, 98, 99] σ τ1 := hE1
      refine e_aload_n (pc' := 26) dX11_has_25 rfl rfl ?_
      refine e_iload_n (pc' := 27) dX11_has_26 rfl rfl ?_
      refine e_cv1i (pc' := 30) dX11_has_27 rfl k_11_214 h_88 rfl (Nat.le_of_ble_eq_true rfl) rfl rfl ⟨rfl, rfl⟩ ⟨Nat.zero_le _, Nat.zero_le _⟩ (s_m_hasN hM1 hL1 g ⟨by omega, by omega⟩) ?_
      intro r σ' hr; rw [hr.1, hr.2]; clear hr
      exact e_iret dX11_has_30 rfl ⟨rfl, Nat.le_refl _⟩ ⟨_, rfl, by rw [if_neg (by omega), if_pos (by omega)], hFF1, hK1, hM1⟩
    · have c4_2n : ¬ (0 ≤ g ∧ g < (ρ.1 b 6)) := fun hpq_ => absurd (if_pos hpq_ : (if 0 ≤ g ∧ g < (ρ.1 b 6) then (1 : Int) else 0) = 1) (by have := c4_2; omega)
      refine e_bipush (pc' := 20) (z := (-2)) dX11_has_18 rfl (by decide) ?_
      exact e_iret dX11_has_20 rfl ⟨rfl, Nat.le_refl _⟩ ⟨_, rfl, by rw [if_neg (by omega), if_neg (by omega)], Fr.rf, KA.rf, h⟩
  · refine e_aload_n (pc' := 6) dX11_has_5 rfl rfl ?_
    refine e_cv0i (pc' := 9) dX11_has_6 rfl k_11_217 h_88 rfl (Nat.le_of_ble_eq_true rfl) rfl rfl ⟨rfl, rfl⟩ ⟨Nat.zero_le _, Nat.zero_le _⟩ (s_m_allNow h) ?_
    rintro r τ1 ⟨hr, hFF1, hK1, hM1⟩
    exact e_iret dX11_has_9 rfl ⟨rfl, Nat.le_refl _⟩ ⟨_, rfl, by rw [if_pos (by omega)]; exact hr, hFF1, hK1, hM1⟩

set_option maxHeartbeats 4000000 in
set_option maxRecDepth 100000 in
theorem s_m_give {X : AX} {d : Nat} {σ ρ : SG} {b : Nat} (h : MdI σ ρ b) (g w a : Int) (hg : rg g) (hw : rg w) (ha : rg a) : Ev X 0 0 (d + 2) mX11_give 0 [some (rv 88), some (iv g), some (iv w), some (iv a), none, none] [] σ (QI (fun r σ' => if (((0 ≤ g ∧ g < (ρ.1 b 6)) ∧ (0 ≤ w ∧ w < (ρ.1 b 7))) ∧ (0 ≤ a ∧ a ≤ 12)) ∧ gv (ρ.1 (b + 5)) g - ρ.1 (b + 5) (g * 3 + w) + a ≤ ρ.1 (b + 1) g then (r = ρ.1 (b + 5) (g * 3 + w) ∧ σ'.1 89 = updA (σ.1 89) (35 + (g * 3 + w)) a ∧ Fr [89] σ σ') else (r = -2 ∧ σ' = σ))) := by
  have ho := h.1
  have hX := h.2.1
  have hP := h.2.2.1
  have hG := ho.1
  have hW := ho.2.1
  obtain ⟨hg1, hg2⟩ := hg
  obtain ⟨hw1, hw2⟩ := hw
  obtain ⟨ha1, ha2⟩ := ha
  refine e_aload_n (pc' := 1) dX11_give_0 rfl rfl ?_
  refine e_iload_n (pc' := 2) dX11_give_1 rfl rfl ?_
  refine e_cv1i (pc' := 5) dX11_give_2 rfl k_11_91 h_88 rfl (Nat.le_of_ble_eq_true rfl) rfl rfl ⟨rfl, rfl⟩ ⟨Nat.zero_le _, Nat.zero_le _⟩ (s_m_isGiver g ⟨by omega, by omega⟩ (by rw [h.2.2.1.1.1]; exact hG)) ?_
  intro r σ' hr; rw [hr.1, hr.2, h.2.2.1.1.1]; clear hr
  refine e_ifI (pc' := 8) (t := 16) dX11_give_5 (by decide) rfl ⟨by first | omega | (split <;> omega), by first | omega | (split <;> omega)⟩ (fun (c2_1 : ((if 0 ≤ g ∧ g < (ρ.1 b 6) then 1 else 0) : Int) = 0) => ?_) (fun (c2_1 : ¬ (((if 0 ≤ g ∧ g < (ρ.1 b 6) then 1 else 0) : Int) = 0)) => ?_)
  · have c2_1n : ¬ (0 ≤ g ∧ g < (ρ.1 b 6)) := fun hpq_ => absurd (if_pos hpq_ : (if 0 ≤ g ∧ g < (ρ.1 b 6) then (1 : Int) else 0) = 1) (by have := c2_1; omega)
    refine e_bipush (pc' := 18) (z := (-2)) dX11_give_16 rfl (by decide) ?_
    exact e_iret dX11_give_18 rfl ⟨rfl, Nat.le_refl _⟩ ⟨_, rfl, by dsimp only; rw [if_neg (by omega)]; exact ⟨rfl, rfl⟩⟩
  · have c2_1n : 0 ≤ g ∧ g < (ρ.1 b 6) := Classical.byContradiction (fun hpq_ => absurd (if_neg hpq_ : (if 0 ≤ g ∧ g < (ρ.1 b 6) then (1 : Int) else 0) = 0) (by have := c2_1; omega))
    refine e_aload_n (pc' := 9) dX11_give_8 rfl rfl ?_
    refine e_iload_n (pc' := 10) dX11_give_9 rfl rfl ?_
    refine e_cv1i (pc' := 13) dX11_give_10 rfl k_11_95 h_88 rfl (Nat.le_of_ble_eq_true rfl) rfl rfl ⟨rfl, rfl⟩ ⟨Nat.zero_le _, Nat.zero_le _⟩ (s_m_isWork w ⟨by omega, by omega⟩ (by rw [h.2.2.1.1.2.1]; exact hW)) ?_
    intro r σ' hr; rw [hr.1, hr.2, h.2.2.1.1.2.1]; clear hr
    refine e_ifI (pc' := 16) (t := 19) dX11_give_13 (by decide) rfl ⟨by first | omega | (split <;> omega), by first | omega | (split <;> omega)⟩ (fun (c4_2 : ((if 0 ≤ w ∧ w < (ρ.1 b 7) then 1 else 0) : Int) ≠ 0) => ?_) (fun (c4_2 : ¬ (((if 0 ≤ w ∧ w < (ρ.1 b 7) then 1 else 0) : Int) ≠ 0)) => ?_)
    · have c4_2n : 0 ≤ w ∧ w < (ρ.1 b 7) := Classical.byContradiction (fun hpq_ => absurd (if_neg hpq_ : (if 0 ≤ w ∧ w < (ρ.1 b 7) then (1 : Int) else 0) = 0) (by have := c4_2; omega))
      refine e_iconst (pc' := 20) dX11_give_19 rfl ?_
      refine e_istore (pc' := 22) (L' := [some (rv 88), some (iv g), some (iv w), some (iv a), some (iv 0), none]) dX11_give_20 rfl (by decide) rfl ?_
      refine e_iconst (pc' := 23) dX11_give_22 rfl ?_
      refine e_istore (pc' := 25) (L' := [some (rv 88), some (iv g), some (iv w), some (iv a), some (iv 0), some (iv 0)]) dX11_give_23 rfl (by decide) rfl ?_
      refine e_iload (pc' := 27) dX11_give_25 rfl rfl ?_
      refine e_iconst (pc' := 28) dX11_give_27 rfl ?_
      refine e_icmpI (pc' := 31) (t := 59) dX11_give_28 (by decide) rfl ⟨by omega, by omega⟩ ⟨by omega, by omega⟩ (fun c6_3 => absurd (show 3 ≤ (0 : Int) from c6_3) (by decide)) (fun _ => ?_)
      refine e_iload (pc' := 33) dX11_give_31 rfl rfl ?_
      refine e_iload (pc' := 35) dX11_give_33 rfl rfl ?_
      refine e_iload_n (pc' := 36) dX11_give_35 rfl rfl ?_
      refine e_icmpI (pc' := 39) (t := 43) dX11_give_36 (by decide) rfl ⟨by omega, by omega⟩ ⟨by first | omega | (split <;> omega), by first | omega | (split <;> omega)⟩ (fun (c6_4 : (0 : Int) ≠ w) => ?_) (fun (c6_4 : ¬ ((0 : Int) ≠ w)) => ?_)
      · refine e_aload_n (pc' := 44) dX11_give_43 rfl rfl ?_
        refine e_iload_n (pc' := 45) dX11_give_44 rfl rfl ?_
        refine e_iload (pc' := 47) dX11_give_45 rfl rfl ?_
        refine e_cv2i (pc' := 50) dX11_give_47 rfl k_11_186 h_88 rfl (Nat.le_of_ble_eq_true rfl) rfl rfl ⟨rfl, rfl⟩ ⟨Nat.zero_le _, Nat.zero_le _⟩ (s_m_gift g 0 (by omega) (by omega)) ?_
        intro r σ' hr; rw [hr.1, hr.2, show 35 + 3 * g + 0 = 35 + (g * 3 + 0) by omega, (h.2.2.1.2.2.2 (g * 3 + 0) (by omega) (by omega)).2.2]; clear hr
        refine e_iadd (pc' := 51) dX11_give_50 rfl ?_
        refine e_istore (pc' := 53) (L' := [some (rv 88), some (iv g), some (iv w), some (iv a), some (iv (0 + (ρ.1 (b + 5) (g * 3 + 0)))), some (iv 0)]) dX11_give_51 rfl (by decide) rfl ?_
        refine e_iinc (pc' := 56) (L' := [some (rv 88), some (iv g), some (iv w), some (iv a), some (iv (0 + (ρ.1 (b + 5) (g * 3 + 0)))), some (iv 1)]) dX11_give_53 rfl rfl (by decide) rfl ?_
        refine e_goto (pc' := 25) dX11_give_56 (by decide) ?_
        refine e_iload (pc' := 27) dX11_give_25 rfl rfl ?_
        refine e_iconst (pc' := 28) dX11_give_27 rfl ?_
        refine e_icmpI (pc' := 31) (t := 59) dX11_give_28 (by decide) rfl ⟨by omega, by omega⟩ ⟨by omega, by omega⟩ (fun c8_5 => absurd (show 3 ≤ (1 : Int) from c8_5) (by decide)) (fun _ => ?_)
        refine e_iload (pc' := 33) dX11_give_31 rfl rfl ?_
        refine e_iload (pc' := 35) dX11_give_33 rfl rfl ?_
        refine e_iload_n (pc' := 36) dX11_give_35 rfl rfl ?_
        refine e_icmpI (pc' := 39) (t := 43) dX11_give_36 (by decide) rfl ⟨by omega, by omega⟩ ⟨by first | omega | (split <;> omega), by first | omega | (split <;> omega)⟩ (fun (c8_6 : (1 : Int) ≠ w) => ?_) (fun (c8_6 : ¬ ((1 : Int) ≠ w)) => ?_)
        · refine e_aload_n (pc' := 44) dX11_give_43 rfl rfl ?_
          refine e_iload_n (pc' := 45) dX11_give_44 rfl rfl ?_
          refine e_iload (pc' := 47) dX11_give_45 rfl rfl ?_
          refine e_cv2i (pc' := 50) dX11_give_47 rfl k_11_186 h_88 rfl (Nat.le_of_ble_eq_true rfl) rfl rfl ⟨rfl, rfl⟩ ⟨Nat.zero_le _, Nat.zero_le _⟩ (s_m_gift g 1 (by omega) (by omega)) ?_
          intro r σ' hr; rw [hr.1, hr.2, show 35 + 3 * g + 1 = 35 + (g * 3 + 1) by omega, (h.2.2.1.2.2.2 (g * 3 + 1) (by omega) (by omega)).2.2]; clear hr
          refine e_iadd (pc' := 51) dX11_give_50 rfl ?_
          refine e_istore (pc' := 53) (L' := [some (rv 88), some (iv g), some (iv w), some (iv a), some (iv ((0 + (ρ.1 (b + 5) (g * 3 + 0))) + (ρ.1 (b + 5) (g * 3 + 1)))), some (iv 1)]) dX11_give_51 rfl (by decide) rfl ?_
          refine e_iinc (pc' := 56) (L' := [some (rv 88), some (iv g), some (iv w), some (iv a), some (iv ((0 + (ρ.1 (b + 5) (g * 3 + 0))) + (ρ.1 (b + 5) (g * 3 + 1)))), some (iv 2)]) dX11_give_53 rfl rfl (by decide) rfl ?_
          refine e_goto (pc' := 25) dX11_give_56 (by decide) ?_
          refine e_iload (pc' := 27) dX11_give_25 rfl rfl ?_
          refine e_iconst (pc' := 28) dX11_give_27 rfl ?_
          refine e_icmpI (pc' := 31) (t := 59) dX11_give_28 (by decide) rfl ⟨by omega, by omega⟩ ⟨by omega, by omega⟩ (fun c10_7 => absurd (show 3 ≤ (2 : Int) from c10_7) (by decide)) (fun _ => ?_)
          refine e_iload (pc' := 33) dX11_give_31 rfl rfl ?_
          refine e_iload (pc' := 35) dX11_give_33 rfl rfl ?_
          refine e_iload_n (pc' := 36) dX11_give_35 rfl rfl ?_
          refine e_icmpI (pc' := 39) (t := 43) dX11_give_36 (by decide) rfl ⟨by omega, by omega⟩ ⟨by first | omega | (split <;> omega), by first | omega | (split <;> omega)⟩ (fun (c10_8 : (2 : Int) ≠ w) => ?_) (fun (c10_8 : ¬ ((2 : Int) ≠ w)) => ?_)
          · refine e_aload_n (pc' := 44) dX11_give_43 rfl rfl ?_
            refine e_iload_n (pc' := 45) dX11_give_44 rfl rfl ?_
            refine e_iload (pc' := 47) dX11_give_45 rfl rfl ?_
            refine e_cv2i (pc' := 50) dX11_give_47 rfl k_11_186 h_88 rfl (Nat.le_of_ble_eq_true rfl) rfl rfl ⟨rfl, rfl⟩ ⟨Nat.zero_le _, Nat.zero_le _⟩ (s_m_gift g 2 (by omega) (by omega)) ?_
            intro r σ' hr; rw [hr.1, hr.2, show 35 + 3 * g + 2 = 35 + (g * 3 + 2) by omega, (h.2.2.1.2.2.2 (g * 3 + 2) (by omega) (by omega)).2.2]; clear hr
            refine e_iadd (pc' := 51) dX11_give_50 rfl ?_
            refine e_istore (pc' := 53) (L' := [some (rv 88), some (iv g), some (iv w), some (iv a), some (iv (((0 + (ρ.1 (b + 5) (g * 3 + 0))) + (ρ.1 (b + 5) (g * 3 + 1))) + (ρ.1 (b + 5) (g * 3 + 2)))), some (iv 2)]) dX11_give_51 rfl (by decide) rfl ?_
            refine e_iinc (pc' := 56) (L' := [some (rv 88), some (iv g), some (iv w), some (iv a), some (iv (((0 + (ρ.1 (b + 5) (g * 3 + 0))) + (ρ.1 (b + 5) (g * 3 + 1))) + (ρ.1 (b + 5) (g * 3 + 2)))), some (iv 3)]) dX11_give_53 rfl rfl (by decide) rfl ?_
            refine e_goto (pc' := 25) dX11_give_56 (by decide) ?_
            refine e_iload (pc' := 27) dX11_give_25 rfl rfl ?_
            refine e_iconst (pc' := 28) dX11_give_27 rfl ?_
            refine e_icmpI (pc' := 31) (t := 59) dX11_give_28 (by decide) rfl ⟨by omega, by omega⟩ ⟨by omega, by omega⟩ (fun _ => ?_) (fun c12_9 => absurd (show 3 ≤ (3 : Int) by decide) c12_9)
            have hcn : σ.1 89 (0 + g) = ρ.1 (b + 1) g := by rw [show 0 + g = g by omega]; exact hP.2.1 g (by omega) (by omega)
            have hcr := ho.2.2.2.2.2.2.2.2.2.2.1 g (by omega) (by omega)
            have f0 := ho.2.2.2.2.2.2.1 (g * 3 + 0) (by omega) (by omega)
            have f1 := ho.2.2.2.2.2.2.1 (g * 3 + 1) (by omega) (by omega)
            have f2 := ho.2.2.2.2.2.2.1 (g * 3 + 2) (by omega) (by omega)
            have hoth : (((0 + (ρ.1 (b + 5) (g * 3 + 0))) + (ρ.1 (b + 5) (g * 3 + 1))) + (ρ.1 (b + 5) (g * 3 + 2))) = gv (ρ.1 (b + 5)) g - ρ.1 (b + 5) (g * 3 + w) := by
              unfold gv
              rcases (show w = 0 ∨ w = 1 ∨ w = 2 by omega) with q | q | q <;> subst q <;> first | omega | (exfalso; omega)
            refine e_iload_n (pc' := 60) dX11_give_59 rfl rfl ?_
            refine e_i2l (pc' := 61) dX11_give_60 rfl ⟨by first | omega | (split <;> omega), by first | omega | (split <;> omega)⟩ ?_
            refine e_lconst (pc' := 62) (z := 0) dX11_give_61 rfl rfl ?_
            refine e_aload_n (pc' := 63) dX11_give_62 rfl rfl ?_
            refine e_getR (pc' := 66) dX11_give_63 rfl f_11_7 h_88 rfl ?_
            refine e_iconst (pc' := 67) dX11_give_66 rfl ?_
            refine e_iload_n (pc' := 68) dX11_give_67 rfl rfl ?_
            refine e_iadd (pc' := 69) dX11_give_68 rfl ?_
            refine e_iald (pc' := 70) (v := (ρ.1 (b + 1) g)) dX11_give_69 rfl h_89 (by decide) (by omega) (by omega) hcn ?_
            refine e_iload (pc' := 72) dX11_give_70 rfl rfl ?_
            refine e_isub (pc' := 73) dX11_give_72 rfl ?_
            refine e_i2l (pc' := 74) dX11_give_73 rfl ⟨by first | omega | (split <;> omega), by first | omega | (split <;> omega)⟩ ?_
            refine e_cs3i (pc' := 77) dX11_give_74 rfl pn_11_80 k_11_80 (Nat.le_of_ble_eq_true rfl) rfl rfl ⟨rfl, rfl⟩ ⟨Nat.zero_le _, Nat.zero_le _⟩ (s_m_in a 0 ((ρ.1 (b + 1) g) - (((0 + (ρ.1 (b + 5) (g * 3 + 0))) + (ρ.1 (b + 5) (g * 3 + 1))) + (ρ.1 (b + 5) (g * 3 + 2)))) (i64_to ⟨by omega, by omega⟩) (by decide) (i64_to ⟨by omega, by omega⟩)) ?_
            intro r σ' hr; rw [hr.1, hr.2]; clear hr
            refine e_ifI (pc' := 80) (t := 83) dX11_give_77 (by decide) rfl ⟨by first | omega | (split <;> omega), by first | omega | (split <;> omega)⟩ (fun (c12_10 : ((if 0 ≤ a ∧ a ≤ ((ρ.1 (b + 1) g) - (((0 + (ρ.1 (b + 5) (g * 3 + 0))) + (ρ.1 (b + 5) (g * 3 + 1))) + (ρ.1 (b + 5) (g * 3 + 2)))) then 1 else 0) : Int) ≠ 0) => ?_) (fun (c12_10 : ¬ (((if 0 ≤ a ∧ a ≤ ((ρ.1 (b + 1) g) - (((0 + (ρ.1 (b + 5) (g * 3 + 0))) + (ρ.1 (b + 5) (g * 3 + 1))) + (ρ.1 (b + 5) (g * 3 + 2)))) then 1 else 0) : Int) ≠ 0)) => ?_)
            · have c12_10n : 0 ≤ a ∧ a ≤ ((ρ.1 (b + 1) g) - (((0 + (ρ.1 (b + 5) (g * 3 + 0))) + (ρ.1 (b + 5) (g * 3 + 1))) + (ρ.1 (b + 5) (g * 3 + 2)))) := Classical.byContradiction (fun hpq_ => absurd (if_neg hpq_ : (if 0 ≤ a ∧ a ≤ ((ρ.1 (b + 1) g) - (((0 + (ρ.1 (b + 5) (g * 3 + 0))) + (ρ.1 (b + 5) (g * 3 + 1))) + (ρ.1 (b + 5) (g * 3 + 2)))) then (1 : Int) else 0) = 0) (by have := c12_10; omega))
              refine e_aload_n (pc' := 84) dX11_give_83 rfl rfl ?_
              refine e_iload_n (pc' := 85) dX11_give_84 rfl rfl ?_
              refine e_iload_n (pc' := 86) dX11_give_85 rfl rfl ?_
              refine e_cv2i (pc' := 89) dX11_give_86 rfl k_11_186 h_88 rfl (Nat.le_of_ble_eq_true rfl) rfl rfl ⟨rfl, rfl⟩ ⟨Nat.zero_le _, Nat.zero_le _⟩ (s_m_gift g w (by omega) (by omega)) ?_
              intro r σ' hr; rw [hr.1, hr.2, show 35 + 3 * g + w = 35 + (g * 3 + w) by omega, (h.2.2.1.2.2.2 (g * 3 + w) (by omega) (by omega)).2.2]; clear hr
              refine e_istore (pc' := 91) (L' := [some (rv 88), some (iv g), some (iv w), some (iv a), some (iv (((0 + (ρ.1 (b + 5) (g * 3 + 0))) + (ρ.1 (b + 5) (g * 3 + 1))) + (ρ.1 (b + 5) (g * 3 + 2)))), some (iv (ρ.1 (b + 5) (g * 3 + w)))]) dX11_give_89 rfl (by decide) rfl ?_
              refine e_aload_n (pc' := 92) dX11_give_91 rfl rfl ?_
              refine e_getR (pc' := 95) dX11_give_92 rfl f_11_7 h_88 rfl ?_
              refine e_bipush (pc' := 97) (z := 35) dX11_give_95 rfl (by decide) ?_
              refine e_iconst (pc' := 98) dX11_give_97 rfl ?_
              refine e_iload_n (pc' := 99) dX11_give_98 rfl rfl ?_
              refine e_imul (pc' := 100) dX11_give_99 rfl ?_
              refine e_iadd (pc' := 101) dX11_give_100 rfl ?_
              refine e_iload_n (pc' := 102) dX11_give_101 rfl rfl ?_
              refine e_iadd (pc' := 103) dX11_give_102 rfl ?_
              refine e_iload_n (pc' := 104) dX11_give_103 rfl rfl ?_
              refine e_iast (pc' := 105) dX11_give_104 rfl h_89 (by decide) (by omega) (by omega) ?_
              refine e_iload (pc' := 107) dX11_give_105 rfl rfl ?_
              exact e_iret dX11_give_107 rfl ⟨rfl, Nat.le_refl _⟩ ⟨_, rfl, by dsimp only; rw [if_pos (by omega)]; exact ⟨rfl, by rw [upI_fn, show (35 + 3 * g) + w = 35 + (g * 3 + w) by omega], (by repeat (first | exact Fr.rf | assumption | (refine fr_I ?_ (by decide)) | (refine fr_J ?_ (by decide)) | (refine fr_C ?_ (by decide))))⟩⟩
            · have c12_10n : ¬ (0 ≤ a ∧ a ≤ ((ρ.1 (b + 1) g) - (((0 + (ρ.1 (b + 5) (g * 3 + 0))) + (ρ.1 (b + 5) (g * 3 + 1))) + (ρ.1 (b + 5) (g * 3 + 2))))) := fun hpq_ => absurd (if_pos hpq_ : (if 0 ≤ a ∧ a ≤ ((ρ.1 (b + 1) g) - (((0 + (ρ.1 (b + 5) (g * 3 + 0))) + (ρ.1 (b + 5) (g * 3 + 1))) + (ρ.1 (b + 5) (g * 3 + 2)))) then (1 : Int) else 0) = 1) (by have := c12_10; omega)
              refine e_bipush (pc' := 82) (z := (-2)) dX11_give_80 rfl (by decide) ?_
              exact e_iret dX11_give_82 rfl ⟨rfl, Nat.le_refl _⟩ ⟨_, rfl, by dsimp only; rw [if_neg (by omega)]; exact ⟨rfl, rfl⟩⟩
          · refine e_iconst (pc' := 40) dX11_give_39 rfl ?_
            refine e_goto (pc' := 50) dX11_give_40 (by decide) ?_
            refine e_iadd (pc' := 51) dX11_give_50 rfl ?_
            refine e_istore (pc' := 53) (L' := [some (rv 88), some (iv g), some (iv w), some (iv a), some (iv (((0 + (ρ.1 (b + 5) (g * 3 + 0))) + (ρ.1 (b + 5) (g * 3 + 1))) + 0)), some (iv 2)]) dX11_give_51 rfl (by decide) rfl ?_
            refine e_iinc (pc' := 56) (L' := [some (rv 88), some (iv g), some (iv w), some (iv a), some (iv (((0 + (ρ.1 (b + 5) (g * 3 + 0))) + (ρ.1 (b + 5) (g * 3 + 1))) + 0)), some (iv 3)]) dX11_give_53 rfl rfl (by decide) rfl ?_
            refine e_goto (pc' := 25) dX11_give_56 (by decide) ?_
            refine e_iload (pc' := 27) dX11_give_25 rfl rfl ?_
            refine e_iconst (pc' := 28) dX11_give_27 rfl ?_
            refine e_icmpI (pc' := 31) (t := 59) dX11_give_28 (by decide) rfl ⟨by omega, by omega⟩ ⟨by omega, by omega⟩ (fun _ => ?_) (fun c12_9 => absurd (show 3 ≤ (3 : Int) by decide) c12_9)
            have hcn : σ.1 89 (0 + g) = ρ.1 (b + 1) g := by rw [show 0 + g = g by omega]; exact hP.2.1 g (by omega) (by omega)
            have hcr := ho.2.2.2.2.2.2.2.2.2.2.1 g (by omega) (by omega)
            have f0 := ho.2.2.2.2.2.2.1 (g * 3 + 0) (by omega) (by omega)
            have f1 := ho.2.2.2.2.2.2.1 (g * 3 + 1) (by omega) (by omega)
            have f2 := ho.2.2.2.2.2.2.1 (g * 3 + 2) (by omega) (by omega)
            have hoth : (((0 + (ρ.1 (b + 5) (g * 3 + 0))) + (ρ.1 (b + 5) (g * 3 + 1))) + 0) = gv (ρ.1 (b + 5)) g - ρ.1 (b + 5) (g * 3 + w) := by
              unfold gv
              rcases (show w = 0 ∨ w = 1 ∨ w = 2 by omega) with q | q | q <;> subst q <;> first | omega | (exfalso; omega)
            refine e_iload_n (pc' := 60) dX11_give_59 rfl rfl ?_
            refine e_i2l (pc' := 61) dX11_give_60 rfl ⟨by first | omega | (split <;> omega), by first | omega | (split <;> omega)⟩ ?_
            refine e_lconst (pc' := 62) (z := 0) dX11_give_61 rfl rfl ?_
            refine e_aload_n (pc' := 63) dX11_give_62 rfl rfl ?_
            refine e_getR (pc' := 66) dX11_give_63 rfl f_11_7 h_88 rfl ?_
            refine e_iconst (pc' := 67) dX11_give_66 rfl ?_
            refine e_iload_n (pc' := 68) dX11_give_67 rfl rfl ?_
            refine e_iadd (pc' := 69) dX11_give_68 rfl ?_
            refine e_iald (pc' := 70) (v := (ρ.1 (b + 1) g)) dX11_give_69 rfl h_89 (by decide) (by omega) (by omega) hcn ?_
            refine e_iload (pc' := 72) dX11_give_70 rfl rfl ?_
            refine e_isub (pc' := 73) dX11_give_72 rfl ?_
            refine e_i2l (pc' := 74) dX11_give_73 rfl ⟨by first | omega | (split <;> omega), by first | omega | (split <;> omega)⟩ ?_
            refine e_cs3i (pc' := 77) dX11_give_74 rfl pn_11_80 k_11_80 (Nat.le_of_ble_eq_true rfl) rfl rfl ⟨rfl, rfl⟩ ⟨Nat.zero_le _, Nat.zero_le _⟩ (s_m_in a 0 ((ρ.1 (b + 1) g) - (((0 + (ρ.1 (b + 5) (g * 3 + 0))) + (ρ.1 (b + 5) (g * 3 + 1))) + 0)) (i64_to ⟨by omega, by omega⟩) (by decide) (i64_to ⟨by omega, by omega⟩)) ?_
            intro r σ' hr; rw [hr.1, hr.2]; clear hr
            refine e_ifI (pc' := 80) (t := 83) dX11_give_77 (by decide) rfl ⟨by first | omega | (split <;> omega), by first | omega | (split <;> omega)⟩ (fun (c12_10 : ((if 0 ≤ a ∧ a ≤ ((ρ.1 (b + 1) g) - (((0 + (ρ.1 (b + 5) (g * 3 + 0))) + (ρ.1 (b + 5) (g * 3 + 1))) + 0)) then 1 else 0) : Int) ≠ 0) => ?_) (fun (c12_10 : ¬ (((if 0 ≤ a ∧ a ≤ ((ρ.1 (b + 1) g) - (((0 + (ρ.1 (b + 5) (g * 3 + 0))) + (ρ.1 (b + 5) (g * 3 + 1))) + 0)) then 1 else 0) : Int) ≠ 0)) => ?_)
            · have c12_10n : 0 ≤ a ∧ a ≤ ((ρ.1 (b + 1) g) - (((0 + (ρ.1 (b + 5) (g * 3 + 0))) + (ρ.1 (b + 5) (g * 3 + 1))) + 0)) := Classical.byContradiction (fun hpq_ => absurd (if_neg hpq_ : (if 0 ≤ a ∧ a ≤ ((ρ.1 (b + 1) g) - (((0 + (ρ.1 (b + 5) (g * 3 + 0))) + (ρ.1 (b + 5) (g * 3 + 1))) + 0)) then (1 : Int) else 0) = 0) (by have := c12_10; omega))
              refine e_aload_n (pc' := 84) dX11_give_83 rfl rfl ?_
              refine e_iload_n (pc' := 85) dX11_give_84 rfl rfl ?_
              refine e_iload_n (pc' := 86) dX11_give_85 rfl rfl ?_
              refine e_cv2i (pc' := 89) dX11_give_86 rfl k_11_186 h_88 rfl (Nat.le_of_ble_eq_true rfl) rfl rfl ⟨rfl, rfl⟩ ⟨Nat.zero_le _, Nat.zero_le _⟩ (s_m_gift g w (by omega) (by omega)) ?_
              intro r σ' hr; rw [hr.1, hr.2, show 35 + 3 * g + w = 35 + (g * 3 + w) by omega, (h.2.2.1.2.2.2 (g * 3 + w) (by omega) (by omega)).2.2]; clear hr
              refine e_istore (pc' := 91) (L' := [some (rv 88), some (iv g), some (iv w), some (iv a), some (iv (((0 + (ρ.1 (b + 5) (g * 3 + 0))) + (ρ.1 (b + 5) (g * 3 + 1))) + 0)), some (iv (ρ.1 (b + 5) (g * 3 + w)))]) dX11_give_89 rfl (by decide) rfl ?_
              refine e_aload_n (pc' := 92) dX11_give_91 rfl rfl ?_
              refine e_getR (pc' := 95) dX11_give_92 rfl f_11_7 h_88 rfl ?_
              refine e_bipush (pc' := 97) (z := 35) dX11_give_95 rfl (by decide) ?_
              refine e_iconst (pc' := 98) dX11_give_97 rfl ?_
              refine e_iload_n (pc' := 99) dX11_give_98 rfl rfl ?_
              refine e_imul (pc' := 100) dX11_give_99 rfl ?_
              refine e_iadd (pc' := 101) dX11_give_100 rfl ?_
              refine e_iload_n (pc' := 102) dX11_give_101 rfl rfl ?_
              refine e_iadd (pc' := 103) dX11_give_102 rfl ?_
              refine e_iload_n (pc' := 104) dX11_give_103 rfl rfl ?_
              refine e_iast (pc' := 105) dX11_give_104 rfl h_89 (by decide) (by omega) (by omega) ?_
              refine e_iload (pc' := 107) dX11_give_105 rfl rfl ?_
              exact e_iret dX11_give_107 rfl ⟨rfl, Nat.le_refl _⟩ ⟨_, rfl, by dsimp only; rw [if_pos (by omega)]; exact ⟨rfl, by rw [upI_fn, show (35 + 3 * g) + w = 35 + (g * 3 + w) by omega], (by repeat (first | exact Fr.rf | assumption | (refine fr_I ?_ (by decide)) | (refine fr_J ?_ (by decide)) | (refine fr_C ?_ (by decide))))⟩⟩
            · have c12_10n : ¬ (0 ≤ a ∧ a ≤ ((ρ.1 (b + 1) g) - (((0 + (ρ.1 (b + 5) (g * 3 + 0))) + (ρ.1 (b + 5) (g * 3 + 1))) + 0))) := fun hpq_ => absurd (if_pos hpq_ : (if 0 ≤ a ∧ a ≤ ((ρ.1 (b + 1) g) - (((0 + (ρ.1 (b + 5) (g * 3 + 0))) + (ρ.1 (b + 5) (g * 3 + 1))) + 0)) then (1 : Int) else 0) = 1) (by have := c12_10; omega)
              refine e_bipush (pc' := 82) (z := (-2)) dX11_give_80 rfl (by decide) ?_
              exact e_iret dX11_give_82 rfl ⟨rfl, Nat.le_refl _⟩ ⟨_, rfl, by dsimp only; rw [if_neg (by omega)]; exact ⟨rfl, rfl⟩⟩
        · refine e_iconst (pc' := 40) dX11_give_39 rfl ?_
          refine e_goto (pc' := 50) dX11_give_40 (by decide) ?_
          refine e_iadd (pc' := 51) dX11_give_50 rfl ?_
          refine e_istore (pc' := 53) (L' := [some (rv 88), some (iv g), some (iv w), some (iv a), some (iv ((0 + (ρ.1 (b + 5) (g * 3 + 0))) + 0)), some (iv 1)]) dX11_give_51 rfl (by decide) rfl ?_
          refine e_iinc (pc' := 56) (L' := [some (rv 88), some (iv g), some (iv w), some (iv a), some (iv ((0 + (ρ.1 (b + 5) (g * 3 + 0))) + 0)), some (iv 2)]) dX11_give_53 rfl rfl (by decide) rfl ?_
          refine e_goto (pc' := 25) dX11_give_56 (by decide) ?_
          refine e_iload (pc' := 27) dX11_give_25 rfl rfl ?_
          refine e_iconst (pc' := 28) dX11_give_27 rfl ?_
          refine e_icmpI (pc' := 31) (t := 59) dX11_give_28 (by decide) rfl ⟨by omega, by omega⟩ ⟨by omega, by omega⟩ (fun c10_7 => absurd (show 3 ≤ (2 : Int) from c10_7) (by decide)) (fun _ => ?_)
          refine e_iload (pc' := 33) dX11_give_31 rfl rfl ?_
          refine e_iload (pc' := 35) dX11_give_33 rfl rfl ?_
          refine e_iload_n (pc' := 36) dX11_give_35 rfl rfl ?_
          refine e_icmpI (pc' := 39) (t := 43) dX11_give_36 (by decide) rfl ⟨by omega, by omega⟩ ⟨by first | omega | (split <;> omega), by first | omega | (split <;> omega)⟩ (fun (c10_8 : (2 : Int) ≠ w) => ?_) (fun (c10_8 : ¬ ((2 : Int) ≠ w)) => ?_)
          · refine e_aload_n (pc' := 44) dX11_give_43 rfl rfl ?_
            refine e_iload_n (pc' := 45) dX11_give_44 rfl rfl ?_
            refine e_iload (pc' := 47) dX11_give_45 rfl rfl ?_
            refine e_cv2i (pc' := 50) dX11_give_47 rfl k_11_186 h_88 rfl (Nat.le_of_ble_eq_true rfl) rfl rfl ⟨rfl, rfl⟩ ⟨Nat.zero_le _, Nat.zero_le _⟩ (s_m_gift g 2 (by omega) (by omega)) ?_
            intro r σ' hr; rw [hr.1, hr.2, show 35 + 3 * g + 2 = 35 + (g * 3 + 2) by omega, (h.2.2.1.2.2.2 (g * 3 + 2) (by omega) (by omega)).2.2]; clear hr
            refine e_iadd (pc' := 51) dX11_give_50 rfl ?_
            refine e_istore (pc' := 53) (L' := [some (rv 88), some (iv g), some (iv w), some (iv a), some (iv (((0 + (ρ.1 (b + 5) (g * 3 + 0))) + 0) + (ρ.1 (b + 5) (g * 3 + 2)))), some (iv 2)]) dX11_give_51 rfl (by decide) rfl ?_
            refine e_iinc (pc' := 56) (L' := [some (rv 88), some (iv g), some (iv w), some (iv a), some (iv (((0 + (ρ.1 (b + 5) (g * 3 + 0))) + 0) + (ρ.1 (b + 5) (g * 3 + 2)))), some (iv 3)]) dX11_give_53 rfl rfl (by decide) rfl ?_
            refine e_goto (pc' := 25) dX11_give_56 (by decide) ?_
            refine e_iload (pc' := 27) dX11_give_25 rfl rfl ?_
            refine e_iconst (pc' := 28) dX11_give_27 rfl ?_
            refine e_icmpI (pc' := 31) (t := 59) dX11_give_28 (by decide) rfl ⟨by omega, by omega⟩ ⟨by omega, by omega⟩ (fun _ => ?_) (fun c12_9 => absurd (show 3 ≤ (3 : Int) by decide) c12_9)
            have hcn : σ.1 89 (0 + g) = ρ.1 (b + 1) g := by rw [show 0 + g = g by omega]; exact hP.2.1 g (by omega) (by omega)
            have hcr := ho.2.2.2.2.2.2.2.2.2.2.1 g (by omega) (by omega)
            have f0 := ho.2.2.2.2.2.2.1 (g * 3 + 0) (by omega) (by omega)
            have f1 := ho.2.2.2.2.2.2.1 (g * 3 + 1) (by omega) (by omega)
            have f2 := ho.2.2.2.2.2.2.1 (g * 3 + 2) (by omega) (by omega)
            have hoth : (((0 + (ρ.1 (b + 5) (g * 3 + 0))) + 0) + (ρ.1 (b + 5) (g * 3 + 2))) = gv (ρ.1 (b + 5)) g - ρ.1 (b + 5) (g * 3 + w) := by
              unfold gv
              rcases (show w = 0 ∨ w = 1 ∨ w = 2 by omega) with q | q | q <;> subst q <;> first | omega | (exfalso; omega)
            refine e_iload_n (pc' := 60) dX11_give_59 rfl rfl ?_
            refine e_i2l (pc' := 61) dX11_give_60 rfl ⟨by first | omega | (split <;> omega), by first | omega | (split <;> omega)⟩ ?_
            refine e_lconst (pc' := 62) (z := 0) dX11_give_61 rfl rfl ?_
            refine e_aload_n (pc' := 63) dX11_give_62 rfl rfl ?_
            refine e_getR (pc' := 66) dX11_give_63 rfl f_11_7 h_88 rfl ?_
            refine e_iconst (pc' := 67) dX11_give_66 rfl ?_
            refine e_iload_n (pc' := 68) dX11_give_67 rfl rfl ?_
            refine e_iadd (pc' := 69) dX11_give_68 rfl ?_
            refine e_iald (pc' := 70) (v := (ρ.1 (b + 1) g)) dX11_give_69 rfl h_89 (by decide) (by omega) (by omega) hcn ?_
            refine e_iload (pc' := 72) dX11_give_70 rfl rfl ?_
            refine e_isub (pc' := 73) dX11_give_72 rfl ?_
            refine e_i2l (pc' := 74) dX11_give_73 rfl ⟨by first | omega | (split <;> omega), by first | omega | (split <;> omega)⟩ ?_
            refine e_cs3i (pc' := 77) dX11_give_74 rfl pn_11_80 k_11_80 (Nat.le_of_ble_eq_true rfl) rfl rfl ⟨rfl, rfl⟩ ⟨Nat.zero_le _, Nat.zero_le _⟩ (s_m_in a 0 ((ρ.1 (b + 1) g) - (((0 + (ρ.1 (b + 5) (g * 3 + 0))) + 0) + (ρ.1 (b + 5) (g * 3 + 2)))) (i64_to ⟨by omega, by omega⟩) (by decide) (i64_to ⟨by omega, by omega⟩)) ?_
            intro r σ' hr; rw [hr.1, hr.2]; clear hr
            refine e_ifI (pc' := 80) (t := 83) dX11_give_77 (by decide) rfl ⟨by first | omega | (split <;> omega), by first | omega | (split <;> omega)⟩ (fun (c12_10 : ((if 0 ≤ a ∧ a ≤ ((ρ.1 (b + 1) g) - (((0 + (ρ.1 (b + 5) (g * 3 + 0))) + 0) + (ρ.1 (b + 5) (g * 3 + 2)))) then 1 else 0) : Int) ≠ 0) => ?_) (fun (c12_10 : ¬ (((if 0 ≤ a ∧ a ≤ ((ρ.1 (b + 1) g) - (((0 + (ρ.1 (b + 5) (g * 3 + 0))) + 0) + (ρ.1 (b + 5) (g * 3 + 2)))) then 1 else 0) : Int) ≠ 0)) => ?_)
            · have c12_10n : 0 ≤ a ∧ a ≤ ((ρ.1 (b + 1) g) - (((0 + (ρ.1 (b + 5) (g * 3 + 0))) + 0) + (ρ.1 (b + 5) (g * 3 + 2)))) := Classical.byContradiction (fun hpq_ => absurd (if_neg hpq_ : (if 0 ≤ a ∧ a ≤ ((ρ.1 (b + 1) g) - (((0 + (ρ.1 (b + 5) (g * 3 + 0))) + 0) + (ρ.1 (b + 5) (g * 3 + 2)))) then (1 : Int) else 0) = 0) (by have := c12_10; omega))
              refine e_aload_n (pc' := 84) dX11_give_83 rfl rfl ?_
              refine e_iload_n (pc' := 85) dX11_give_84 rfl rfl ?_
              refine e_iload_n (pc' := 86) dX11_give_85 rfl rfl ?_
              refine e_cv2i (pc' := 89) dX11_give_86 rfl k_11_186 h_88 rfl (Nat.le_of_ble_eq_true rfl) rfl rfl ⟨rfl, rfl⟩ ⟨Nat.zero_le _, Nat.zero_le _⟩ (s_m_gift g w (by omega) (by omega)) ?_
              intro r σ' hr; rw [hr.1, hr.2, show 35 + 3 * g + w = 35 + (g * 3 + w) by omega, (h.2.2.1.2.2.2 (g * 3 + w) (by omega) (by omega)).2.2]; clear hr
              refine e_istore (pc' := 91) (L' := [some (rv 88), some (iv g), some (iv w), some (iv a), some (iv (((0 + (ρ.1 (b + 5) (g * 3 + 0))) + 0) + (ρ.1 (b + 5) (g * 3 + 2)))), some (iv (ρ.1 (b + 5) (g * 3 + w)))]) dX11_give_89 rfl (by decide) rfl ?_
              refine e_aload_n (pc' := 92) dX11_give_91 rfl rfl ?_
              refine e_getR (pc' := 95) dX11_give_92 rfl f_11_7 h_88 rfl ?_
              refine e_bipush (pc' := 97) (z := 35) dX11_give_95 rfl (by decide) ?_
              refine e_iconst (pc' := 98) dX11_give_97 rfl ?_
              refine e_iload_n (pc' := 99) dX11_give_98 rfl rfl ?_
              refine e_imul (pc' := 100) dX11_give_99 rfl ?_
              refine e_iadd (pc' := 101) dX11_give_100 rfl ?_
              refine e_iload_n (pc' := 102) dX11_give_101 rfl rfl ?_
              refine e_iadd (pc' := 103) dX11_give_102 rfl ?_
              refine e_iload_n (pc' := 104) dX11_give_103 rfl rfl ?_
              refine e_iast (pc' := 105) dX11_give_104 rfl h_89 (by decide) (by omega) (by omega) ?_
              refine e_iload (pc' := 107) dX11_give_105 rfl rfl ?_
              exact e_iret dX11_give_107 rfl ⟨rfl, Nat.le_refl _⟩ ⟨_, rfl, by dsimp only; rw [if_pos (by omega)]; exact ⟨rfl, by rw [upI_fn, show (35 + 3 * g) + w = 35 + (g * 3 + w) by omega], (by repeat (first | exact Fr.rf | assumption | (refine fr_I ?_ (by decide)) | (refine fr_J ?_ (by decide)) | (refine fr_C ?_ (by decide))))⟩⟩
            · have c12_10n : ¬ (0 ≤ a ∧ a ≤ ((ρ.1 (b + 1) g) - (((0 + (ρ.1 (b + 5) (g * 3 + 0))) + 0) + (ρ.1 (b + 5) (g * 3 + 2))))) := fun hpq_ => absurd (if_pos hpq_ : (if 0 ≤ a ∧ a ≤ ((ρ.1 (b + 1) g) - (((0 + (ρ.1 (b + 5) (g * 3 + 0))) + 0) + (ρ.1 (b + 5) (g * 3 + 2)))) then (1 : Int) else 0) = 1) (by have := c12_10; omega)
              refine e_bipush (pc' := 82) (z := (-2)) dX11_give_80 rfl (by decide) ?_
              exact e_iret dX11_give_82 rfl ⟨rfl, Nat.le_refl _⟩ ⟨_, rfl, by dsimp only; rw [if_neg (by omega)]; exact ⟨rfl, rfl⟩⟩
          · refine e_iconst (pc' := 40) dX11_give_39 rfl ?_
            refine e_goto (pc' := 50) dX11_give_40 (by decide) ?_
            refine e_iadd (pc' := 51) dX11_give_50 rfl ?_
            refine e_istore (pc' := 53) (L' := [some (rv 88), some (iv g), some (iv w), some (iv a), some (iv (((0 + (ρ.1 (b + 5) (g * 3 + 0))) + 0) + 0)), some (iv 2)]) dX11_give_51 rfl (by decide) rfl ?_
            refine e_iinc (pc' := 56) (L' := [some (rv 88), some (iv g), some (iv w), some (iv a), some (iv (((0 + (ρ.1 (b + 5) (g * 3 + 0))) + 0) + 0)), some (iv 3)]) dX11_give_53 rfl rfl (by decide) rfl ?_
            refine e_goto (pc' := 25) dX11_give_56 (by decide) ?_
            refine e_iload (pc' := 27) dX11_give_25 rfl rfl ?_
            refine e_iconst (pc' := 28) dX11_give_27 rfl ?_
            refine e_icmpI (pc' := 31) (t := 59) dX11_give_28 (by decide) rfl ⟨by omega, by omega⟩ ⟨by omega, by omega⟩ (fun _ => ?_) (fun c12_9 => absurd (show 3 ≤ (3 : Int) by decide) c12_9)
            have hcn : σ.1 89 (0 + g) = ρ.1 (b + 1) g := by rw [show 0 + g = g by omega]; exact hP.2.1 g (by omega) (by omega)
            have hcr := ho.2.2.2.2.2.2.2.2.2.2.1 g (by omega) (by omega)
            have f0 := ho.2.2.2.2.2.2.1 (g * 3 + 0) (by omega) (by omega)
            have f1 := ho.2.2.2.2.2.2.1 (g * 3 + 1) (by omega) (by omega)
            have f2 := ho.2.2.2.2.2.2.1 (g * 3 + 2) (by omega) (by omega)
            have hoth : (((0 + (ρ.1 (b + 5) (g * 3 + 0))) + 0) + 0) = gv (ρ.1 (b + 5)) g - ρ.1 (b + 5) (g * 3 + w) := by
              unfold gv
              rcases (show w = 0 ∨ w = 1 ∨ w = 2 by omega) with q | q | q <;> subst q <;> first | omega | (exfalso; omega)
            refine e_iload_n (pc' := 60) dX11_give_59 rfl rfl ?_
            refine e_i2l (pc' := 61) dX11_give_60 rfl ⟨by first | omega | (split <;> omega), by first | omega | (split <;> omega)⟩ ?_
            refine e_lconst (pc' := 62) (z := 0) dX11_give_61 rfl rfl ?_
            refine e_aload_n (pc' := 63) dX11_give_62 rfl rfl ?_
            refine e_getR (pc' := 66) dX11_give_63 rfl f_11_7 h_88 rfl ?_
            refine e_iconst (pc' := 67) dX11_give_66 rfl ?_
            refine e_iload_n (pc' := 68) dX11_give_67 rfl rfl ?_
            refine e_iadd (pc' := 69) dX11_give_68 rfl ?_
            refine e_iald (pc' := 70) (v := (ρ.1 (b + 1) g)) dX11_give_69 rfl h_89 (by decide) (by omega) (by omega) hcn ?_
            refine e_iload (pc' := 72) dX11_give_70 rfl rfl ?_
            refine e_isub (pc' := 73) dX11_give_72 rfl ?_
            refine e_i2l (pc' := 74) dX11_give_73 rfl ⟨by first | omega | (split <;> omega), by first | omega | (split <;> omega)⟩ ?_
            refine e_cs3i (pc' := 77) dX11_give_74 rfl pn_11_80 k_11_80 (Nat.le_of_ble_eq_true rfl) rfl rfl ⟨rfl, rfl⟩ ⟨Nat.zero_le _, Nat.zero_le _⟩ (s_m_in a 0 ((ρ.1 (b + 1) g) - (((0 + (ρ.1 (b + 5) (g * 3 + 0))) + 0) + 0)) (i64_to ⟨by omega, by omega⟩) (by decide) (i64_to ⟨by omega, by omega⟩)) ?_
            intro r σ' hr; rw [hr.1, hr.2]; clear hr
            refine e_ifI (pc' := 80) (t := 83) dX11_give_77 (by decide) rfl ⟨by first | omega | (split <;> omega), by first | omega | (split <;> omega)⟩ (fun (c12_10 : ((if 0 ≤ a ∧ a ≤ ((ρ.1 (b + 1) g) - (((0 + (ρ.1 (b + 5) (g * 3 + 0))) + 0) + 0)) then 1 else 0) : Int) ≠ 0) => ?_) (fun (c12_10 : ¬ (((if 0 ≤ a ∧ a ≤ ((ρ.1 (b + 1) g) - (((0 + (ρ.1 (b + 5) (g * 3 + 0))) + 0) + 0)) then 1 else 0) : Int) ≠ 0)) => ?_)
            · have c12_10n : 0 ≤ a ∧ a ≤ ((ρ.1 (b + 1) g) - (((0 + (ρ.1 (b + 5) (g * 3 + 0))) + 0) + 0)) := Classical.byContradiction (fun hpq_ => absurd (if_neg hpq_ : (if 0 ≤ a ∧ a ≤ ((ρ.1 (b + 1) g) - (((0 + (ρ.1 (b + 5) (g * 3 + 0))) + 0) + 0)) then (1 : Int) else 0) = 0) (by have := c12_10; omega))
              refine e_aload_n (pc' := 84) dX11_give_83 rfl rfl ?_
              refine e_iload_n (pc' := 85) dX11_give_84 rfl rfl ?_
              refine e_iload_n (pc' := 86) dX11_give_85 rfl rfl ?_
              refine e_cv2i (pc' := 89) dX11_give_86 rfl k_11_186 h_88 rfl (Nat.le_of_ble_eq_true rfl) rfl rfl ⟨rfl, rfl⟩ ⟨Nat.zero_le _, Nat.zero_le _⟩ (s_m_gift g w (by omega) (by omega)) ?_
              intro r σ' hr; rw [hr.1, hr.2, show 35 + 3 * g + w = 35 + (g * 3 + w) by omega, (h.2.2.1.2.2.2 (g * 3 + w) (by omega) (by omega)).2.2]; clear hr
              refine e_istore (pc' := 91) (L' := [some (rv 88), some (iv g), some (iv w), some (iv a), some (iv (((0 + (ρ.1 (b + 5) (g * 3 + 0))) + 0) + 0)), some (iv (ρ.1 (b + 5) (g * 3 + w)))]) dX11_give_89 rfl (by decide) rfl ?_
              refine e_aload_n (pc' := 92) dX11_give_91 rfl rfl ?_
              refine e_getR (pc' := 95) dX11_give_92 rfl f_11_7 h_88 rfl ?_
              refine e_bipush (pc' := 97) (z := 35) dX11_give_95 rfl (by decide) ?_
              refine e_iconst (pc' := 98) dX11_give_97 rfl ?_
              refine e_iload_n (pc' := 99) dX11_give_98 rfl rfl ?_
              refine e_imul (pc' := 100) dX11_give_99 rfl ?_
              refine e_iadd (pc' := 101) dX11_give_100 rfl ?_
              refine e_iload_n (pc' := 102) dX11_give_101 rfl rfl ?_
              refine e_iadd (pc' := 103) dX11_give_102 rfl ?_
              refine e_iload_n (pc' := 104) dX11_give_103 rfl rfl ?_
              refine e_iast (pc' := 105) dX11_give_104 rfl h_89 (by decide) (by omega) (by omega) ?_
              refine e_iload (pc' := 107) dX11_give_105 rfl rfl ?_
              exact e_iret dX11_give_107 rfl ⟨rfl, Nat.le_refl _⟩ ⟨_, rfl, by dsimp only; rw [if_pos (by omega)]; exact ⟨rfl, by rw [upI_fn, show (35 + 3 * g) + w = 35 + (g * 3 + w) by omega], (by repeat (first | exact Fr.rf | assumption | (refine fr_I ?_ (by decide)) | (refine fr_J ?_ (by decide)) | (refine fr_C ?_ (by decide))))⟩⟩
            · have c12_10n : ¬ (0 ≤ a ∧ a ≤ ((ρ.1 (b + 1) g) - (((0 + (ρ.1 (b + 5) (g * 3 + 0))) + 0) + 0))) := fun hpq_ => absurd (if_pos hpq_ : (if 0 ≤ a ∧ a ≤ ((ρ.1 (b + 1) g) - (((0 + (ρ.1 (b + 5) (g * 3 + 0))) + 0) + 0)) then (1 : Int) else 0) = 1) (by have := c12_10; omega)
              refine e_bipush (pc' := 82) (z := (-2)) dX11_give_80 rfl (by decide) ?_
              exact e_iret dX11_give_82 rfl ⟨rfl, Nat.le_refl _⟩ ⟨_, rfl, by dsimp only; rw [if_neg (by omega)]; exact ⟨rfl, rfl⟩⟩
      · refine e_iconst (pc' := 40) dX11_give_39 rfl ?_
        refine e_goto (pc' := 50) dX11_give_40 (by decide) ?_
        refine e_iadd (pc' := 51) dX11_give_50 rfl ?_
        refine e_istore (pc' := 53) (L' := [some (rv 88), some (iv g), some (iv w), some (iv a), some (iv (0 + 0)), some (iv 0)]) dX11_give_51 rfl (by decide) rfl ?_
        refine e_iinc (pc' := 56) (L' := [some (rv 88), some (iv g), some (iv w), some (iv a), some (iv (0 + 0)), some (iv 1)]) dX11_give_53 rfl rfl (by decide) rfl ?_
        refine e_goto (pc' := 25) dX11_give_56 (by decide) ?_
        refine e_iload (pc' := 27) dX11_give_25 rfl rfl ?_
        refine e_iconst (pc' := 28) dX11_give_27 rfl ?_
        refine e_icmpI (pc' := 31) (t := 59) dX11_give_28 (by decide) rfl ⟨by omega, by omega⟩ ⟨by omega, by omega⟩ (fun c8_5 => absurd (show 3 ≤ (1 : Int) from c8_5) (by decide)) (fun _ => ?_)
        refine e_iload (pc' := 33) dX11_give_31 rfl rfl ?_
        refine e_iload (pc' := 35) dX11_give_33 rfl rfl ?_
        refine e_iload_n (pc' := 36) dX11_give_35 rfl rfl ?_
        refine e_icmpI (pc' := 39) (t := 43) dX11_give_36 (by decide) rfl ⟨by omega, by omega⟩ ⟨by first | omega | (split <;> omega), by first | omega | (split <;> omega)⟩ (fun (c8_6 : (1 : Int) ≠ w) => ?_) (fun (c8_6 : ¬ ((1 : Int) ≠ w)) => ?_)
        · refine e_aload_n (pc' := 44) dX11_give_43 rfl rfl ?_
          refine e_iload_n (pc' := 45) dX11_give_44 rfl rfl ?_
          refine e_iload (pc' := 47) dX11_give_45 rfl rfl ?_
          refine e_cv2i (pc' := 50) dX11_give_47 rfl k_11_186 h_88 rfl (Nat.le_of_ble_eq_true rfl) rfl rfl ⟨rfl, rfl⟩ ⟨Nat.zero_le _, Nat.zero_le _⟩ (s_m_gift g 1 (by omega) (by omega)) ?_
          intro r σ' hr; rw [hr.1, hr.2, show 35 + 3 * g + 1 = 35 + (g * 3 + 1) by omega, (h.2.2.1.2.2.2 (g * 3 + 1) (by omega) (by omega)).2.2]; clear hr
          refine e_iadd (pc' := 51) dX11_give_50 rfl ?_
          refine e_istore (pc' := 53) (L' := [some (rv 88), some (iv g), some (iv w), some (iv a), some (iv ((0 + 0) + (ρ.1 (b + 5) (g * 3 + 1)))), some (iv 1)]) dX11_give_51 rfl (by decide) rfl ?_
          refine e_iinc (pc' := 56) (L' := [some (rv 88), some (iv g), some (iv w), some (iv a), some (iv ((0 + 0) + (ρ.1 (b + 5) (g * 3 + 1)))), some (iv 2)]) dX11_give_53 rfl rfl (by decide) rfl ?_
          refine e_goto (pc' := 25) dX11_give_56 (by decide) ?_
          refine e_iload (pc' := 27) dX11_give_25 rfl rfl ?_
          refine e_iconst (pc' := 28) dX11_give_27 rfl ?_
          refine e_icmpI (pc' := 31) (t := 59) dX11_give_28 (by decide) rfl ⟨by omega, by omega⟩ ⟨by omega, by omega⟩ (fun c10_7 => absurd (show 3 ≤ (2 : Int) from c10_7) (by decide)) (fun _ => ?_)
          refine e_iload (pc' := 33) dX11_give_31 rfl rfl ?_
          refine e_iload (pc' := 35) dX11_give_33 rfl rfl ?_
          refine e_iload_n (pc' := 36) dX11_give_35 rfl rfl ?_
          refine e_icmpI (pc' := 39) (t := 43) dX11_give_36 (by decide) rfl ⟨by omega, by omega⟩ ⟨by first | omega | (split <;> omega), by first | omega | (split <;> omega)⟩ (fun (c10_8 : (2 : Int) ≠ w) => ?_) (fun (c10_8 : ¬ ((2 : Int) ≠ w)) => ?_)
          · refine e_aload_n (pc' := 44) dX11_give_43 rfl rfl ?_
            refine e_iload_n (pc' := 45) dX11_give_44 rfl rfl ?_
            refine e_iload (pc' := 47) dX11_give_45 rfl rfl ?_
            refine e_cv2i (pc' := 50) dX11_give_47 rfl k_11_186 h_88 rfl (Nat.le_of_ble_eq_true rfl) rfl rfl ⟨rfl, rfl⟩ ⟨Nat.zero_le _, Nat.zero_le _⟩ (s_m_gift g 2 (by omega) (by omega)) ?_
            intro r σ' hr; rw [hr.1, hr.2, show 35 + 3 * g + 2 = 35 + (g * 3 + 2) by omega, (h.2.2.1.2.2.2 (g * 3 + 2) (by omega) (by omega)).2.2]; clear hr
            refine e_iadd (pc' := 51) dX11_give_50 rfl ?_
            refine e_istore (pc' := 53) (L' := [some (rv 88), some (iv g), some (iv w), some (iv a), some (iv (((0 + 0) + (ρ.1 (b + 5) (g * 3 + 1))) + (ρ.1 (b + 5) (g * 3 + 2)))), some (iv 2)]) dX11_give_51 rfl (by decide) rfl ?_
            refine e_iinc (pc' := 56) (L' := [some (rv 88), some (iv g), some (iv w), some (iv a), some (iv (((0 + 0) + (ρ.1 (b + 5) (g * 3 + 1))) + (ρ.1 (b + 5) (g * 3 + 2)))), some (iv 3)]) dX11_give_53 rfl rfl (by decide) rfl ?_
            refine e_goto (pc' := 25) dX11_give_56 (by decide) ?_
            refine e_iload (pc' := 27) dX11_give_25 rfl rfl ?_
            refine e_iconst (pc' := 28) dX11_give_27 rfl ?_
            refine e_icmpI (pc' := 31) (t := 59) dX11_give_28 (by decide) rfl ⟨by omega, by omega⟩ ⟨by omega, by omega⟩ (fun _ => ?_) (fun c12_9 => absurd (show 3 ≤ (3 : Int) by decide) c12_9)
            have hcn : σ.1 89 (0 + g) = ρ.1 (b + 1) g := by rw [show 0 + g = g by omega]; exact hP.2.1 g (by omega) (by omega)
            have hcr := ho.2.2.2.2.2.2.2.2.2.2.1 g (by omega) (by omega)
            have f0 := ho.2.2.2.2.2.2.1 (g * 3 + 0) (by omega) (by omega)
            have f1 := ho.2.2.2.2.2.2.1 (g * 3 + 1) (by omega) (by omega)
            have f2 := ho.2.2.2.2.2.2.1 (g * 3 + 2) (by omega) (by omega)
            have hoth : (((0 + 0) + (ρ.1 (b + 5) (g * 3 + 1))) + (ρ.1 (b + 5) (g * 3 + 2))) = gv (ρ.1 (b + 5)) g - ρ.1 (b + 5) (g * 3 + w) := by
              unfold gv
              rcases (show w = 0 ∨ w = 1 ∨ w = 2 by omega) with q | q | q <;> subst q <;> first | omega | (exfalso; omega)
            refine e_iload_n (pc' := 60) dX11_give_59 rfl rfl ?_
            refine e_i2l (pc' := 61) dX11_give_60 rfl ⟨by first | omega | (split <;> omega), by first | omega | (split <;> omega)⟩ ?_
            refine e_lconst (pc' := 62) (z := 0) dX11_give_61 rfl rfl ?_
            refine e_aload_n (pc' := 63) dX11_give_62 rfl rfl ?_
            refine e_getR (pc' := 66) dX11_give_63 rfl f_11_7 h_88 rfl ?_
            refine e_iconst (pc' := 67) dX11_give_66 rfl ?_
            refine e_iload_n (pc' := 68) dX11_give_67 rfl rfl ?_
            refine e_iadd (pc' := 69) dX11_give_68 rfl ?_
            refine e_iald (pc' := 70) (v := (ρ.1 (b + 1) g)) dX11_give_69 rfl h_89 (by decide) (by omega) (by omega) hcn ?_
            refine e_iload (pc' := 72) dX11_give_70 rfl rfl ?_
            refine e_isub (pc' := 73) dX11_give_72 rfl ?_
            refine e_i2l (pc' := 74) dX11_give_73 rfl ⟨by first | omega | (split <;> omega), by first | omega | (split <;> omega)⟩ ?_
            refine e_cs3i (pc' := 77) dX11_give_74 rfl pn_11_80 k_11_80 (Nat.le_of_ble_eq_true rfl) rfl rfl ⟨rfl, rfl⟩ ⟨Nat.zero_le _, Nat.zero_le _⟩ (s_m_in a 0 ((ρ.1 (b + 1) g) - (((0 + 0) + (ρ.1 (b + 5) (g * 3 + 1))) + (ρ.1 (b + 5) (g * 3 + 2)))) (i64_to ⟨by omega, by omega⟩) (by decide) (i64_to ⟨by omega, by omega⟩)) ?_
            intro r σ' hr; rw [hr.1, hr.2]; clear hr
            refine e_ifI (pc' := 80) (t := 83) dX11_give_77 (by decide) rfl ⟨by first | omega | (split <;> omega), by first | omega | (split <;> omega)⟩ (fun (c12_10 : ((if 0 ≤ a ∧ a ≤ ((ρ.1 (b + 1) g) - (((0 + 0) + (ρ.1 (b + 5) (g * 3 + 1))) + (ρ.1 (b + 5) (g * 3 + 2)))) then 1 else 0) : Int) ≠ 0) => ?_) (fun (c12_10 : ¬ (((if 0 ≤ a ∧ a ≤ ((ρ.1 (b + 1) g) - (((0 + 0) + (ρ.1 (b + 5) (g * 3 + 1))) + (ρ.1 (b + 5) (g * 3 + 2)))) then 1 else 0) : Int) ≠ 0)) => ?_)
            · have c12_10n : 0 ≤ a ∧ a ≤ ((ρ.1 (b + 1) g) - (((0 + 0) + (ρ.1 (b + 5) (g * 3 + 1))) + (ρ.1 (b + 5) (g * 3 + 2)))) := Classical.byContradiction (fun hpq_ => absurd (if_neg hpq_ : (if 0 ≤ a ∧ a ≤ ((ρ.1 (b + 1) g) - (((0 + 0) + (ρ.1 (b + 5) (g * 3 + 1))) + (ρ.1 (b + 5) (g * 3 + 2)))) then (1 : Int) else 0) = 0) (by have := c12_10; omega))
              refine e_aload_n (pc' := 84) dX11_give_83 rfl rfl ?_
              refine e_iload_n (pc' := 85) dX11_give_84 rfl rfl ?_
              refine e_iload_n (pc' := 86) dX11_give_85 rfl rfl ?_
              refine e_cv2i (pc' := 89) dX11_give_86 rfl k_11_186 h_88 rfl (Nat.le_of_ble_eq_true rfl) rfl rfl ⟨rfl, rfl⟩ ⟨Nat.zero_le _, Nat.zero_le _⟩ (s_m_gift g w (by omega) (by omega)) ?_
              intro r σ' hr; rw [hr.1, hr.2, show 35 + 3 * g + w = 35 + (g * 3 + w) by omega, (h.2.2.1.2.2.2 (g * 3 + w) (by omega) (by omega)).2.2]; clear hr
              refine e_istore (pc' := 91) (L' := [some (rv 88), some (iv g), some (iv w), some (iv a), some (iv (((0 + 0) + (ρ.1 (b + 5) (g * 3 + 1))) + (ρ.1 (b + 5) (g * 3 + 2)))), some (iv (ρ.1 (b + 5) (g * 3 + w)))]) dX11_give_89 rfl (by decide) rfl ?_
              refine e_aload_n (pc' := 92) dX11_give_91 rfl rfl ?_
              refine e_getR (pc' := 95) dX11_give_92 rfl f_11_7 h_88 rfl ?_
              refine e_bipush (pc' := 97) (z := 35) dX11_give_95 rfl (by decide) ?_
              refine e_iconst (pc' := 98) dX11_give_97 rfl ?_
              refine e_iload_n (pc' := 99) dX11_give_98 rfl rfl ?_
              refine e_imul (pc' := 100) dX11_give_99 rfl ?_
              refine e_iadd (pc' := 101) dX11_give_100 rfl ?_
              refine e_iload_n (pc' := 102) dX11_give_101 rfl rfl ?_
              refine e_iadd (pc' := 103) dX11_give_102 rfl ?_
              refine e_iload_n (pc' := 104) dX11_give_103 rfl rfl ?_
              refine e_iast (pc' := 105) dX11_give_104 rfl h_89 (by decide) (by omega) (by omega) ?_
              refine e_iload (pc' := 107) dX11_give_105 rfl rfl ?_
              exact e_iret dX11_give_107 rfl ⟨rfl, Nat.le_refl _⟩ ⟨_, rfl, by dsimp only; rw [if_pos (by omega)]; exact ⟨rfl, by rw [upI_fn, show (35 + 3 * g) + w = 35 + (g * 3 + w) by omega], (by repeat (first | exact Fr.rf | assumption | (refine fr_I ?_ (by decide)) | (refine fr_J ?_ (by decide)) | (refine fr_C ?_ (by decide))))⟩⟩
            · have c12_10n : ¬ (0 ≤ a ∧ a ≤ ((ρ.1 (b + 1) g) - (((0 + 0) + (ρ.1 (b + 5) (g * 3 + 1))) + (ρ.1 (b + 5) (g * 3 + 2))))) := fun hpq_ => absurd (if_pos hpq_ : (if 0 ≤ a ∧ a ≤ ((ρ.1 (b + 1) g) - (((0 + 0) + (ρ.1 (b + 5) (g * 3 + 1))) + (ρ.1 (b + 5) (g * 3 + 2)))) then (1 : Int) else 0) = 1) (by have := c12_10; omega)
              refine e_bipush (pc' := 82) (z := (-2)) dX11_give_80 rfl (by decide) ?_
              exact e_iret dX11_give_82 rfl ⟨rfl, Nat.le_refl _⟩ ⟨_, rfl, by dsimp only; rw [if_neg (by omega)]; exact ⟨rfl, rfl⟩⟩
          · refine e_iconst (pc' := 40) dX11_give_39 rfl ?_
            refine e_goto (pc' := 50) dX11_give_40 (by decide) ?_
            refine e_iadd (pc' := 51) dX11_give_50 rfl ?_
            refine e_istore (pc' := 53) (L' := [some (rv 88), some (iv g), some (iv w), some (iv a), some (iv (((0 + 0) + (ρ.1 (b + 5) (g * 3 + 1))) + 0)), some (iv 2)]) dX11_give_51 rfl (by decide) rfl ?_
            refine e_iinc (pc' := 56) (L' := [some (rv 88), some (iv g), some (iv w), some (iv a), some (iv (((0 + 0) + (ρ.1 (b + 5) (g * 3 + 1))) + 0)), some (iv 3)]) dX11_give_53 rfl rfl (by decide) rfl ?_
            refine e_goto (pc' := 25) dX11_give_56 (by decide) ?_
            refine e_iload (pc' := 27) dX11_give_25 rfl rfl ?_
            refine e_iconst (pc' := 28) dX11_give_27 rfl ?_
            refine e_icmpI (pc' := 31) (t := 59) dX11_give_28 (by decide) rfl ⟨by omega, by omega⟩ ⟨by omega, by omega⟩ (fun _ => ?_) (fun c12_9 => absurd (show 3 ≤ (3 : Int) by decide) c12_9)
            have hcn : σ.1 89 (0 + g) = ρ.1 (b + 1) g := by rw [show 0 + g = g by omega]; exact hP.2.1 g (by omega) (by omega)
            have hcr := ho.2.2.2.2.2.2.2.2.2.2.1 g (by omega) (by omega)
            have f0 := ho.2.2.2.2.2.2.1 (g * 3 + 0) (by omega) (by omega)
            have f1 := ho.2.2.2.2.2.2.1 (g * 3 + 1) (by omega) (by omega)
            have f2 := ho.2.2.2.2.2.2.1 (g * 3 + 2) (by omega) (by omega)
            have hoth : (((0 + 0) + (ρ.1 (b + 5) (g * 3 + 1))) + 0) = gv (ρ.1 (b + 5)) g - ρ.1 (b + 5) (g * 3 + w) := by
              unfold gv
              rcases (show w = 0 ∨ w = 1 ∨ w = 2 by omega) with q | q | q <;> subst q <;> first | omega | (exfalso; omega)
            refine e_iload_n (pc' := 60) dX11_give_59 rfl rfl ?_
            refine e_i2l (pc' := 61) dX11_give_60 rfl ⟨by first | omega | (split <;> omega), by first | omega | (split <;> omega)⟩ ?_
            refine e_lconst (pc' := 62) (z := 0) dX11_give_61 rfl rfl ?_
            refine e_aload_n (pc' := 63) dX11_give_62 rfl rfl ?_
            refine e_getR (pc' := 66) dX11_give_63 rfl f_11_7 h_88 rfl ?_
            refine e_iconst (pc' := 67) dX11_give_66 rfl ?_
            refine e_iload_n (pc' := 68) dX11_give_67 rfl rfl ?_
            refine e_iadd (pc' := 69) dX11_give_68 rfl ?_
            refine e_iald (pc' := 70) (v := (ρ.1 (b + 1) g)) dX11_give_69 rfl h_89 (by decide) (by omega) (by omega) hcn ?_
            refine e_iload (pc' := 72) dX11_give_70 rfl rfl ?_
            refine e_isub (pc' := 73) dX11_give_72 rfl ?_
            refine e_i2l (pc' := 74) dX11_give_73 rfl ⟨by first | omega | (split <;> omega), by first | omega | (split <;> omega)⟩ ?_
            refine e_cs3i (pc' := 77) dX11_give_74 rfl pn_11_80 k_11_80 (Nat.le_of_ble_eq_true rfl) rfl rfl ⟨rfl, rfl⟩ ⟨Nat.zero_le _, Nat.zero_le _⟩ (s_m_in a 0 ((ρ.1 (b + 1) g) - (((0 + 0) + (ρ.1 (b + 5) (g * 3 + 1))) + 0)) (i64_to ⟨by omega, by omega⟩) (by decide) (i64_to ⟨by omega, by omega⟩)) ?_
            intro r σ' hr; rw [hr.1, hr.2]; clear hr
            refine e_ifI (pc' := 80) (t := 83) dX11_give_77 (by decide) rfl ⟨by first | omega | (split <;> omega), by first | omega | (split <;> omega)⟩ (fun (c12_10 : ((if 0 ≤ a ∧ a ≤ ((ρ.1 (b + 1) g) - (((0 + 0) + (ρ.1 (b + 5) (g * 3 + 1))) + 0)) then 1 else 0) : Int) ≠ 0) => ?_) (fun (c12_10 : ¬ (((if 0 ≤ a ∧ a ≤ ((ρ.1 (b + 1) g) - (((0 + 0) + (ρ.1 (b + 5) (g * 3 + 1))) + 0)) then 1 else 0) : Int) ≠ 0)) => ?_)
            · have c12_10n : 0 ≤ a ∧ a ≤ ((ρ.1 (b + 1) g) - (((0 + 0) + (ρ.1 (b + 5) (g * 3 + 1))) + 0)) := Classical.byContradiction (fun hpq_ => absurd (if_neg hpq_ : (if 0 ≤ a ∧ a ≤ ((ρ.1 (b + 1) g) - (((0 + 0) + (ρ.1 (b + 5) (g * 3 + 1))) + 0)) then (1 : Int) else 0) = 0) (by have := c12_10; omega))
              refine e_aload_n (pc' := 84) dX11_give_83 rfl rfl ?_
              refine e_iload_n (pc' := 85) dX11_give_84 rfl rfl ?_
              refine e_iload_n (pc' := 86) dX11_give_85 rfl rfl ?_
              refine e_cv2i (pc' := 89) dX11_give_86 rfl k_11_186 h_88 rfl (Nat.le_of_ble_eq_true rfl) rfl rfl ⟨rfl, rfl⟩ ⟨Nat.zero_le _, Nat.zero_le _⟩ (s_m_gift g w (by omega) (by omega)) ?_
              intro r σ' hr; rw [hr.1, hr.2, show 35 + 3 * g + w = 35 + (g * 3 + w) by omega, (h.2.2.1.2.2.2 (g * 3 + w) (by omega) (by omega)).2.2]; clear hr
              refine e_istore (pc' := 91) (L' := [some (rv 88), some (iv g), some (iv w), some (iv a), some (iv (((0 + 0) + (ρ.1 (b + 5) (g * 3 + 1))) + 0)), some (iv (ρ.1 (b + 5) (g * 3 + w)))]) dX11_give_89 rfl (by decide) rfl ?_
              refine e_aload_n (pc' := 92) dX11_give_91 rfl rfl ?_
              refine e_getR (pc' := 95) dX11_give_92 rfl f_11_7 h_88 rfl ?_
              refine e_bipush (pc' := 97) (z := 35) dX11_give_95 rfl (by decide) ?_
              refine e_iconst (pc' := 98) dX11_give_97 rfl ?_
              refine e_iload_n (pc' := 99) dX11_give_98 rfl rfl ?_
              refine e_imul (pc' := 100) dX11_give_99 rfl ?_
              refine e_iadd (pc' := 101) dX11_give_100 rfl ?_
              refine e_iload_n (pc' := 102) dX11_give_101 rfl rfl ?_
              refine e_iadd (pc' := 103) dX11_give_102 rfl ?_
              refine e_iload_n (pc' := 104) dX11_give_103 rfl rfl ?_
              refine e_iast (pc' := 105) dX11_give_104 rfl h_89 (by decide) (by omega) (by omega) ?_
              refine e_iload (pc' := 107) dX11_give_105 rfl rfl ?_
              exact e_iret dX11_give_107 rfl ⟨rfl, Nat.le_refl _⟩ ⟨_, rfl, by dsimp only; rw [if_pos (by omega)]; exact ⟨rfl, by rw [upI_fn, show (35 + 3 * g) + w = 35 + (g * 3 + w) by omega], (by repeat (first | exact Fr.rf | assumption | (refine fr_I ?_ (by decide)) | (refine fr_J ?_ (by decide)) | (refine fr_C ?_ (by decide))))⟩⟩
            · have c12_10n : ¬ (0 ≤ a ∧ a ≤ ((ρ.1 (b + 1) g) - (((0 + 0) + (ρ.1 (b + 5) (g * 3 + 1))) + 0))) := fun hpq_ => absurd (if_pos hpq_ : (if 0 ≤ a ∧ a ≤ ((ρ.1 (b + 1) g) - (((0 + 0) + (ρ.1 (b + 5) (g * 3 + 1))) + 0)) then (1 : Int) else 0) = 1) (by have := c12_10; omega)
              refine e_bipush (pc' := 82) (z := (-2)) dX11_give_80 rfl (by decide) ?_
              exact e_iret dX11_give_82 rfl ⟨rfl, Nat.le_refl _⟩ ⟨_, rfl, by dsimp only; rw [if_neg (by omega)]; exact ⟨rfl, rfl⟩⟩
        · refine e_iconst (pc' := 40) dX11_give_39 rfl ?_
          refine e_goto (pc' := 50) dX11_give_40 (by decide) ?_
          refine e_iadd (pc' := 51) dX11_give_50 rfl ?_
          refine e_istore (pc' := 53) (L' := [some (rv 88), some (iv g), some (iv w), some (iv a), some (iv ((0 + 0) + 0)), some (iv 1)]) dX11_give_51 rfl (by decide) rfl ?_
          refine e_iinc (pc' := 56) (L' := [some (rv 88), some (iv g), some (iv w), some (iv a), some (iv ((0 + 0) + 0)), some (iv 2)]) dX11_give_53 rfl rfl (by decide) rfl ?_
          refine e_goto (pc' := 25) dX11_give_56 (by decide) ?_
          refine e_iload (pc' := 27) dX11_give_25 rfl rfl ?_
          refine e_iconst (pc' := 28) dX11_give_27 rfl ?_
          refine e_icmpI (pc' := 31) (t := 59) dX11_give_28 (by decide) rfl ⟨by omega, by omega⟩ ⟨by omega, by omega⟩ (fun c10_7 => absurd (show 3 ≤ (2 : Int) from c10_7) (by decide)) (fun _ => ?_)
          refine e_iload (pc' := 33) dX11_give_31 rfl rfl ?_
          refine e_iload (pc' := 35) dX11_give_33 rfl rfl ?_
          refine e_iload_n (pc' := 36) dX11_give_35 rfl rfl ?_
          refine e_icmpI (pc' := 39) (t := 43) dX11_give_36 (by decide) rfl ⟨by omega, by omega⟩ ⟨by first | omega | (split <;> omega), by first | omega | (split <;> omega)⟩ (fun (c10_8 : (2 : Int) ≠ w) => ?_) (fun (c10_8 : ¬ ((2 : Int) ≠ w)) => ?_)
          · refine e_aload_n (pc' := 44) dX11_give_43 rfl rfl ?_
            refine e_iload_n (pc' := 45) dX11_give_44 rfl rfl ?_
            refine e_iload (pc' := 47) dX11_give_45 rfl rfl ?_
            refine e_cv2i (pc' := 50) dX11_give_47 rfl k_11_186 h_88 rfl (Nat.le_of_ble_eq_true rfl) rfl rfl ⟨rfl, rfl⟩ ⟨Nat.zero_le _, Nat.zero_le _⟩ (s_m_gift g 2 (by omega) (by omega)) ?_
            intro r σ' hr; rw [hr.1, hr.2, show 35 + 3 * g + 2 = 35 + (g * 3 + 2) by omega, (h.2.2.1.2.2.2 (g * 3 + 2) (by omega) (by omega)).2.2]; clear hr
            refine e_iadd (pc' := 51) dX11_give_50 rfl ?_
            refine e_istore (pc' := 53) (L' := [some (rv 88), some (iv g), some (iv w), some (iv a), some (iv (((0 + 0) + 0) + (ρ.1 (b + 5) (g * 3 + 2)))), some (iv 2)]) dX11_give_51 rfl (by decide) rfl ?_
            refine e_iinc (pc' := 56) (L' := [some (rv 88), some (iv g), some (iv w), some (iv a), some (iv (((0 + 0) + 0) + (ρ.1 (b + 5) (g * 3 + 2)))), some (iv 3)]) dX11_give_53 rfl rfl (by decide) rfl ?_
            refine e_goto (pc' := 25) dX11_give_56 (by decide) ?_
            refine e_iload (pc' := 27) dX11_give_25 rfl rfl ?_
            refine e_iconst (pc' := 28) dX11_give_27 rfl ?_
            refine e_icmpI (pc' := 31) (t := 59) dX11_give_28 (by decide) rfl ⟨by omega, by omega⟩ ⟨by omega, by omega⟩ (fun _ => ?_) (fun c12_9 => absurd (show 3 ≤ (3 : Int) by decide) c12_9)
            have hcn : σ.1 89 (0 + g) = ρ.1 (b + 1) g := by rw [show 0 + g = g by omega]; exact hP.2.1 g (by omega) (by omega)
            have hcr := ho.2.2.2.2.2.2.2.2.2.2.1 g (by omega) (by omega)
            have f0 := ho.2.2.2.2.2.2.1 (g * 3 + 0) (by omega) (by omega)
            have f1 := ho.2.2.2.2.2.2.1 (g * 3 + 1) (by omega) (by omega)
            have f2 := ho.2.2.2.2.2.2.1 (g * 3 + 2) (by omega) (by omega)
            have hoth : (((0 + 0) + 0) + (ρ.1 (b + 5) (g * 3 + 2))) = gv (ρ.1 (b + 5)) g - ρ.1 (b + 5) (g * 3 + w) := by
              unfold gv
              rcases (show w = 0 ∨ w = 1 ∨ w = 2 by omega) with q | q | q <;> subst q <;> first | omega | (exfalso; omega)
            refine e_iload_n (pc' := 60) dX11_give_59 rfl rfl ?_
            refine e_i2l (pc' := 61) dX11_give_60 rfl ⟨by first | omega | (split <;> omega), by first | omega | (split <;> omega)⟩ ?_
            refine e_lconst (pc' := 62) (z := 0) dX11_give_61 rfl rfl ?_
            refine e_aload_n (pc' := 63) dX11_give_62 rfl rfl ?_
            refine e_getR (pc' := 66) dX11_give_63 rfl f_11_7 h_88 rfl ?_
            refine e_iconst (pc' := 67) dX11_give_66 rfl ?_
            refine e_iload_n (pc' := 68) dX11_give_67 rfl rfl ?_
            refine e_iadd (pc' := 69) dX11_give_68 rfl ?_
            refine e_iald (pc' := 70) (v := (ρ.1 (b + 1) g)) dX11_give_69 rfl h_89 (by decide) (by omega) (by omega) hcn ?_
            refine e_iload (pc' := 72) dX11_give_70 rfl rfl ?_
            refine e_isub (pc' := 73) dX11_give_72 rfl ?_
            refine e_i2l (pc' := 74) dX11_give_73 rfl ⟨by first | omega | (split <;> omega), by first | omega | (split <;> omega)⟩ ?_
            refine e_cs3i (pc' := 77) dX11_give_74 rfl pn_11_80 k_11_80 (Nat.le_of_ble_eq_true rfl) rfl rfl ⟨rfl, rfl⟩ ⟨Nat.zero_le _, Nat.zero_le _⟩ (s_m_in a 0 ((ρ.1 (b + 1) g) - (((0 + 0) + 0) + (ρ.1 (b + 5) (g * 3 + 2)))) (i64_to ⟨by omega, by omega⟩) (by decide) (i64_to ⟨by omega, by omega⟩)) ?_
            intro r σ' hr; rw [hr.1, hr.2]; clear hr
            refine e_ifI (pc' := 80) (t := 83) dX11_give_77 (by decide) rfl ⟨by first | omega | (split <;> omega), by first | omega | (split <;> omega)⟩ (fun (c12_10 : ((if 0 ≤ a ∧ a ≤ ((ρ.1 (b + 1) g) - (((0 + 0) + 0) + (ρ.1 (b + 5) (g * 3 + 2)))) then 1 else 0) : Int) ≠ 0) => ?_) (fun (c12_10 : ¬ (((if 0 ≤ a ∧ a ≤ ((ρ.1 (b + 1) g) - (((0 + 0) + 0) + (ρ.1 (b + 5) (g * 3 + 2)))) then 1 else 0) : Int) ≠ 0)) => ?_)
            · have c12_10n : 0 ≤ a ∧ a ≤ ((ρ.1 (b + 1) g) - (((0 + 0) + 0) + (ρ.1 (b + 5) (g * 3 + 2)))) := Classical.byContradiction (fun hpq_ => absurd (if_neg hpq_ : (if 0 ≤ a ∧ a ≤ ((ρ.1 (b + 1) g) - (((0 + 0) + 0) + (ρ.1 (b + 5) (g * 3 + 2)))) then (1 : Int) else 0) = 0) (by have := c12_10; omega))
              refine e_aload_n (pc' := 84) dX11_give_83 rfl rfl ?_
              refine e_iload_n (pc' := 85) dX11_give_84 rfl rfl ?_
              refine e_iload_n (pc' := 86) dX11_give_85 rfl rfl ?_
              refine e_cv2i (pc' := 89) dX11_give_86 rfl k_11_186 h_88 rfl (Nat.le_of_ble_eq_true rfl) rfl rfl ⟨rfl, rfl⟩ ⟨Nat.zero_le _, Nat.zero_le _⟩ (s_m_gift g w (by omega) (by omega)) ?_
              intro r σ' hr; rw [hr.1, hr.2, show 35 + 3 * g + w = 35 + (g * 3 + w) by omega, (h.2.2.1.2.2.2 (g * 3 + w) (by omega) (by omega)).2.2]; clear hr
              refine e_istore (pc' := 91) (L' := [some (rv 88), some (iv g), some (iv w), some (iv a), some (iv (((0 + 0) + 0) + (ρ.1 (b + 5) (g * 3 + 2)))), some (iv (ρ.1 (b + 5) (g * 3 + w)))]) dX11_give_89 rfl (by decide) rfl ?_
              refine e_aload_n (pc' := 92) dX11_give_91 rfl rfl ?_
              refine e_getR (pc' := 95) dX11_give_92 rfl f_11_7 h_88 rfl ?_
              refine e_bipush (pc' := 97) (z := 35) dX11_give_95 rfl (by decide) ?_
              refine e_iconst (pc' := 98) dX11_give_97 rfl ?_
              refine e_iload_n (pc' := 99) dX11_give_98 rfl rfl ?_
              refine e_imul (pc' := 100) dX11_give_99 rfl ?_
              refine e_iadd (pc' := 101) dX11_give_100 rfl ?_
              refine e_iload_n (pc' := 102) dX11_give_101 rfl rfl ?_
              refine e_iadd (pc' := 103) dX11_give_102 rfl ?_
              refine e_iload_n (pc' := 104) dX11_give_103 rfl rfl ?_
              refine e_iast (pc' := 105) dX11_give_104 rfl h_89 (by decide) (by omega) (by omega) ?_
              refine e_iload (pc' := 107) dX11_give_105 rfl rfl ?_
              exact e_iret dX11_give_107 rfl ⟨rfl, Nat.le_refl _⟩ ⟨_, rfl, by dsimp only; rw [if_pos (by omega)]; exact ⟨rfl, by rw [upI_fn, show (35 + 3 * g) + w = 35 + (g * 3 + w) by omega], (by repeat (first | exact Fr.rf | assumption | (refine fr_I ?_ (by decide)) | (refine fr_J ?_ (by decide)) | (refine fr_C ?_ (by decide))))⟩⟩
            · have c12_10n : ¬ (0 ≤ a ∧ a ≤ ((ρ.1 (b + 1) g) - (((0 + 0) + 0) + (ρ.1 (b + 5) (g * 3 + 2))))) := fun hpq_ => absurd (if_pos hpq_ : (if 0 ≤ a ∧ a ≤ ((ρ.1 (b + 1) g) - (((0 + 0) + 0) + (ρ.1 (b + 5) (g * 3 + 2)))) then (1 : Int) else 0) = 1) (by have := c12_10; omega)
              refine e_bipush (pc' := 82) (z := (-2)) dX11_give_80 rfl (by decide) ?_
              exact e_iret dX11_give_82 rfl ⟨rfl, Nat.le_refl _⟩ ⟨_, rfl, by dsimp only; rw [if_neg (by omega)]; exact ⟨rfl, rfl⟩⟩
          · refine e_iconst (pc' := 40) dX11_give_39 rfl ?_
            refine e_goto (pc' := 50) dX11_give_40 (by decide) ?_
            refine e_iadd (pc' := 51) dX11_give_50 rfl ?_
            refine e_istore (pc' := 53) (L' := [some (rv 88), some (iv g), some (iv w), some (iv a), some (iv (((0 + 0) + 0) + 0)), some (iv 2)]) dX11_give_51 rfl (by decide) rfl ?_
            refine e_iinc (pc' := 56) (L' := [some (rv 88), some (iv g), some (iv w), some (iv a), some (iv (((0 + 0) + 0) + 0)), some (iv 3)]) dX11_give_53 rfl rfl (by decide) rfl ?_
            refine e_goto (pc' := 25) dX11_give_56 (by decide) ?_
            refine e_iload (pc' := 27) dX11_give_25 rfl rfl ?_
            refine e_iconst (pc' := 28) dX11_give_27 rfl ?_
            refine e_icmpI (pc' := 31) (t := 59) dX11_give_28 (by decide) rfl ⟨by omega, by omega⟩ ⟨by omega, by omega⟩ (fun _ => ?_) (fun c12_9 => absurd (show 3 ≤ (3 : Int) by decide) c12_9)
            have hcn : σ.1 89 (0 + g) = ρ.1 (b + 1) g := by rw [show 0 + g = g by omega]; exact hP.2.1 g (by omega) (by omega)
            have hcr := ho.2.2.2.2.2.2.2.2.2.2.1 g (by omega) (by omega)
            have f0 := ho.2.2.2.2.2.2.1 (g * 3 + 0) (by omega) (by omega)
            have f1 := ho.2.2.2.2.2.2.1 (g * 3 + 1) (by omega) (by omega)
            have f2 := ho.2.2.2.2.2.2.1 (g * 3 + 2) (by omega) (by omega)
            have hoth : (((0 + 0) + 0) + 0) = gv (ρ.1 (b + 5)) g - ρ.1 (b + 5) (g * 3 + w) := by
              unfold gv
              rcases (show w = 0 ∨ w = 1 ∨ w = 2 by omega) with q | q | q <;> subst q <;> first | omega | (exfalso; omega)
            refine e_iload_n (pc' := 60) dX11_give_59 rfl rfl ?_
            refine e_i2l (pc' := 61) dX11_give_60 rfl ⟨by first | omega | (split <;> omega), by first | omega | (split <;> omega)⟩ ?_
            refine e_lconst (pc' := 62) (z := 0) dX11_give_61 rfl rfl ?_
            refine e_aload_n (pc' := 63) dX11_give_62 rfl rfl ?_
            refine e_getR (pc' := 66) dX11_give_63 rfl f_11_7 h_88 rfl ?_
            refine e_iconst (pc' := 67) dX11_give_66 rfl ?_
            refine e_iload_n (pc' := 68) dX11_give_67 rfl rfl ?_
            refine e_iadd (pc' := 69) dX11_give_68 rfl ?_
            refine e_iald (pc' := 70) (v := (ρ.1 (b + 1) g)) dX11_give_69 rfl h_89 (by decide) (by omega) (by omega) hcn ?_
            refine e_iload (pc' := 72) dX11_give_70 rfl rfl ?_
            refine e_isub (pc' := 73) dX11_give_72 rfl ?_
            refine e_i2l (pc' := 74) dX11_give_73 rfl ⟨by first | omega | (split <;> omega), by first | omega | (split <;> omega)⟩ ?_
            refine e_cs3i (pc' := 77) dX11_give_74 rfl pn_11_80 k_11_80 (Nat.le_of_ble_eq_true rfl) rfl rfl ⟨rfl, rfl⟩ ⟨Nat.zero_le _, Nat.zero_le _⟩ (s_m_in a 0 ((ρ.1 (b + 1) g) - (((0 + 0) + 0) + 0)) (i64_to ⟨by omega, by omega⟩) (by decide) (i64_to ⟨by omega, by omega⟩)) ?_
            intro r σ' hr; rw [hr.1, hr.2]; clear hr
            refine e_ifI (pc' := 80) (t := 83) dX11_give_77 (by decide) rfl ⟨by first | omega | (split <;> omega), by first | omega | (split <;> omega)⟩ (fun (c12_10 : ((if 0 ≤ a ∧ a ≤ ((ρ.1 (b + 1) g) - (((0 + 0) + 0) + 0)) then 1 else 0) : Int) ≠ 0) => ?_) (fun (c12_10 : ¬ (((if 0 ≤ a ∧ a ≤ ((ρ.1 (b + 1) g) - (((0 + 0) + 0) + 0)) then 1 else 0) : Int) ≠ 0)) => ?_)
            · have c12_10n : 0 ≤ a ∧ a ≤ ((ρ.1 (b + 1) g) - (((0 + 0) + 0) + 0)) := Classical.byContradiction (fun hpq_ => absurd (if_neg hpq_ : (if 0 ≤ a ∧ a ≤ ((ρ.1 (b + 1) g) - (((0 + 0) + 0) + 0)) then (1 : Int) else 0) = 0) (by have := c12_10; omega))
              refine e_aload_n (pc' := 84) dX11_give_83 rfl rfl ?_
              refine e_iload_n (pc' := 85) dX11_give_84 rfl rfl ?_
              refine e_iload_n (pc' := 86) dX11_give_85 rfl rfl ?_
              refine e_cv2i (pc' := 89) dX11_give_86 rfl k_11_186 h_88 rfl (Nat.le_of_ble_eq_true rfl) rfl rfl ⟨rfl, rfl⟩ ⟨Nat.zero_le _, Nat.zero_le _⟩ (s_m_gift g w (by omega) (by omega)) ?_
              intro r σ' hr; rw [hr.1, hr.2, show 35 + 3 * g + w = 35 + (g * 3 + w) by omega, (h.2.2.1.2.2.2 (g * 3 + w) (by omega) (by omega)).2.2]; clear hr
              refine e_istore (pc' := 91) (L' := [some (rv 88), some (iv g), some (iv w), some (iv a), some (iv (((0 + 0) + 0) + 0)), some (iv (ρ.1 (b + 5) (g * 3 + w)))]) dX11_give_89 rfl (by decide) rfl ?_
              refine e_aload_n (pc' := 92) dX11_give_91 rfl rfl ?_
              refine e_getR (pc' := 95) dX11_give_92 rfl f_11_7 h_88 rfl ?_
              refine e_bipush (pc' := 97) (z := 35) dX11_give_95 rfl (by decide) ?_
              refine e_iconst (pc' := 98) dX11_give_97 rfl ?_
              refine e_iload_n (pc' := 99) dX11_give_98 rfl rfl ?_
              refine e_imul (pc' := 100) dX11_give_99 rfl ?_
              refine e_iadd (pc' := 101) dX11_give_100 rfl ?_
              refine e_iload_n (pc' := 102) dX11_give_101 rfl rfl ?_
              refine e_iadd (pc' := 103) dX11_give_102 rfl ?_
              refine e_iload_n (pc' := 104) dX11_give_103 rfl rfl ?_
              refine e_iast (pc' := 105) dX11_give_104 rfl h_89 (by decide) (by omega) (by omega) ?_
              refine e_iload (pc' := 107) dX11_give_105 rfl rfl ?_
              exact e_iret dX11_give_107 rfl ⟨rfl, Nat.le_refl _⟩ ⟨_, rfl, by dsimp only; rw [if_pos (by omega)]; exact ⟨rfl, by rw [upI_fn, show (35 + 3 * g) + w = 35 + (g * 3 + w) by omega], (by repeat (first | exact Fr.rf | assumption | (refine fr_I ?_ (by decide)) | (refine fr_J ?_ (by decide)) | (refine fr_C ?_ (by decide))))⟩⟩
            · have c12_10n : ¬ (0 ≤ a ∧ a ≤ ((ρ.1 (b + 1) g) - (((0 + 0) + 0) + 0))) := fun hpq_ => absurd (if_pos hpq_ : (if 0 ≤ a ∧ a ≤ ((ρ.1 (b + 1) g) - (((0 + 0) + 0) + 0)) then (1 : Int) else 0) = 1) (by have := c12_10; omega)
              refine e_bipush (pc' := 82) (z := (-2)) dX11_give_80 rfl (by decide) ?_
              exact e_iret dX11_give_82 rfl ⟨rfl, Nat.le_refl _⟩ ⟨_, rfl, by dsimp only; rw [if_neg (by omega)]; exact ⟨rfl, rfl⟩⟩
    · have c4_2n : ¬ (0 ≤ w ∧ w < (ρ.1 b 7)) := fun hpq_ => absurd (if_pos hpq_ : (if 0 ≤ w ∧ w < (ρ.1 b 7) then (1 : Int) else 0) = 1) (by have := c4_2; omega)
      refine e_bipush (pc' := 18) (z := (-2)) dX11_give_16 rfl (by decide) ?_
      exact e_iret dX11_give_18 rfl ⟨rfl, Nat.le_refl _⟩ ⟨_, rfl, by dsimp only; rw [if_neg (by omega)]; exact ⟨rfl, rfl⟩⟩

set_option maxHeartbeats 4000000 in
set_option maxRecDepth 100000 in
theorem s_m_coinsGiven {X : AX} {d : Nat} {σ ρ : SG} {b : Nat} (h : MdI σ ρ b) : Ev X 0 0 d mX11_coinsGiven 0 [some (rv 88), none, none] [] σ (QI (fun r σ' => σ' = σ ∧ r = smI (fun g => gv (ρ.1 (b + 5)) g) (ρ.1 b 6))) := by
  have ho := h.1
  have hX := h.2.1
  have hP := h.2.2.1
  have hG := ho.1
  have hW := ho.2.1
  refine e_iconst (pc' := 1) dX11_coinsGiven_0 rfl ?_
  refine e_istore_n (pc' := 2) (L' := [some (rv 88), some (iv 0), none]) dX11_coinsGiven_1 rfl (by decide) rfl ?_
  refine e_iconst (pc' := 3) dX11_coinsGiven_2 rfl ?_
  refine e_istore_n (pc' := 4) (L' := [some (rv 88), some (iv 0), some (iv 0)]) dX11_coinsGiven_3 rfl (by decide) rfl ?_
  refine e_iload_n (pc' := 5) dX11_coinsGiven_4 rfl rfl ?_
  refine e_bipush (pc' := 7) (z := 15) dX11_coinsGiven_5 rfl (by decide) ?_
  refine e_icmpI (pc' := 10) (t := 28) dX11_coinsGiven_7 (by decide) rfl ⟨by omega, by omega⟩ ⟨by omega, by omega⟩ (fun c2_1 => absurd (show 15 ≤ (0 : Int) from c2_1) (by decide)) (fun _ => ?_)
  refine e_iload_n (pc' := 11) dX11_coinsGiven_10 rfl rfl ?_
  refine e_aload_n (pc' := 12) dX11_coinsGiven_11 rfl rfl ?_
  refine e_getR (pc' := 15) dX11_coinsGiven_12 rfl f_11_7 h_88 rfl ?_
  refine e_bipush (pc' := 17) (z := 35) dX11_coinsGiven_15 rfl (by decide) ?_
  refine e_iload_n (pc' := 18) dX11_coinsGiven_17 rfl rfl ?_
  refine e_iadd (pc' := 19) dX11_coinsGiven_18 rfl ?_
  refine e_iald (pc' := 20) (v := (ρ.1 (b + 5) 0)) dX11_coinsGiven_19 rfl h_89 (by decide) (by omega) (by omega) (h.2.2.1.2.2.2 0 (by decide) (by decide)).2.2 ?_
  refine e_iadd (pc' := 21) dX11_coinsGiven_20 rfl ?_
  refine e_istore_n (pc' := 22) (L' := [some (rv 88), some (iv (0 + (ρ.1 (b + 5) 0))), some (iv 0)]) dX11_coinsGiven_21 rfl (by decide) rfl ?_
  refine e_iinc (pc' := 25) (L' := [some (rv 88), some (iv (0 + (ρ.1 (b + 5) 0))), some (iv 1)]) dX11_coinsGiven_22 rfl rfl (by decide) rfl ?_
  refine e_goto (pc' := 4) dX11_coinsGiven_25 (by decide) ?_
  refine e_iload_n (pc' := 5) dX11_coinsGiven_4 rfl rfl ?_
  refine e_bipush (pc' := 7) (z := 15) dX11_coinsGiven_5 rfl (by decide) ?_
  refine e_icmpI (pc' := 10) (t := 28) dX11_coinsGiven_7 (by decide) rfl ⟨by omega, by omega⟩ ⟨by omega, by omega⟩ (fun c2_2 => absurd (show 15 ≤ (1 : Int) from c2_2) (by decide)) (fun _ => ?_)
  refine e_iload_n (pc' := 11) dX11_coinsGiven_10 rfl rfl ?_
  refine e_aload_n (pc' := 12) dX11_coinsGiven_11 rfl rfl ?_
  refine e_getR (pc' := 15) dX11_coinsGiven_12 rfl f_11_7 h_88 rfl ?_
  refine e_bipush (pc' := 17) (z := 35) dX11_coinsGiven_15 rfl (by decide) ?_
  refine e_iload_n (pc' := 18) dX11_coinsGiven_17 rfl rfl ?_
  refine e_iadd (pc' := 19) dX11_coinsGiven_18 rfl ?_
  refine e_iald (pc' := 20) (v := (ρ.1 (b + 5) 1)) dX11_coinsGiven_19 rfl h_89 (by decide) (by omega) (by omega) (h.2.2.1.2.2.2 1 (by decide) (by decide)).2.2 ?_
  refine e_iadd (pc' := 21) dX11_coinsGiven_20 rfl ?_
  refine e_istore_n (pc' := 22) (L' := [some (rv 88), some (iv ((0 + (ρ.1 (b + 5) 0)) + (ρ.1 (b + 5) 1))), some (iv 1)]) dX11_coinsGiven_21 rfl (by decide) rfl ?_
  refine e_iinc (pc' := 25) (L' := [some (rv 88), some (iv ((0 + (ρ.1 (b + 5) 0)) + (ρ.1 (b + 5) 1))), some (iv 2)]) dX11_coinsGiven_22 rfl rfl (by decide) rfl ?_
  refine e_goto (pc' := 4) dX11_coinsGiven_25 (by decide) ?_
  refine e_iload_n (pc' := 5) dX11_coinsGiven_4 rfl rfl ?_
  refine e_bipush (pc' := 7) (z := 15) dX11_coinsGiven_5 rfl (by decide) ?_
  refine e_icmpI (pc' := 10) (t := 28) dX11_coinsGiven_7 (by decide) rfl ⟨by omega, by omega⟩ ⟨by omega, by omega⟩ (fun c2_3 => absurd (show 15 ≤ (2 : Int) from c2_3) (by decide)) (fun _ => ?_)
  refine e_iload_n (pc' := 11) dX11_coinsGiven_10 rfl rfl ?_
  refine e_aload_n (pc' := 12) dX11_coinsGiven_11 rfl rfl ?_
  refine e_getR (pc' := 15) dX11_coinsGiven_12 rfl f_11_7 h_88 rfl ?_
  refine e_bipush (pc' := 17) (z := 35) dX11_coinsGiven_15 rfl (by decide) ?_
  refine e_iload_n (pc' := 18) dX11_coinsGiven_17 rfl rfl ?_
  refine e_iadd (pc' := 19) dX11_coinsGiven_18 rfl ?_
  refine e_iald (pc' := 20) (v := (ρ.1 (b + 5) 2)) dX11_coinsGiven_19 rfl h_89 (by decide) (by omega) (by omega) (h.2.2.1.2.2.2 2 (by decide) (by decide)).2.2 ?_
  refine e_iadd (pc' := 21) dX11_coinsGiven_20 rfl ?_
  refine e_istore_n (pc' := 22) (L' := [some (rv 88), some (iv (((0 + (ρ.1 (b + 5) 0)) + (ρ.1 (b + 5) 1)) + (ρ.1 (b + 5) 2))), some (iv 2)]) dX11_coinsGiven_21 rfl (by decide) rfl ?_
  refine e_iinc (pc' := 25) (L' := [some (rv 88), some (iv (((0 + (ρ.1 (b + 5) 0)) + (ρ.1 (b + 5) 1)) + (ρ.1 (b + 5) 2))), some (iv 3)]) dX11_coinsGiven_22 rfl rfl (by decide) rfl ?_
  refine e_goto (pc' := 4) dX11_coinsGiven_25 (by decide) ?_
  refine e_iload_n (pc' := 5) dX11_coinsGiven_4 rfl rfl ?_
  refine e_bipush (pc' := 7) (z := 15) dX11_coinsGiven_5 rfl (by decide) ?_
  refine e_icmpI (pc' := 10) (t := 28) dX11_coinsGiven_7 (by decide) rfl ⟨by omega, by omega⟩ ⟨by omega, by omega⟩ (fun c2_4 => absurd (show 15 ≤ (3 : Int) from c2_4) (by decide)) (fun _ => ?_)
  refine e_iload_n (pc' := 11) dX11_coinsGiven_10 rfl rfl ?_
  refine e_aload_n (pc' := 12) dX11_coinsGiven_11 rfl rfl ?_
  refine e_getR (pc' := 15) dX11_coinsGiven_12 rfl f_11_7 h_88 rfl ?_
  refine e_bipush (pc' := 17) (z := 35) dX11_coinsGiven_15 rfl (by decide) ?_
  refine e_iload_n (pc' := 18) dX11_coinsGiven_17 rfl rfl ?_
  refine e_iadd (pc' := 19) dX11_coinsGiven_18 rfl ?_
  refine e_iald (pc' := 20) (v := (ρ.1 (b + 5) 3)) dX11_coinsGiven_19 rfl h_89 (by decide) (by omega) (by omega) (h.2.2.1.2.2.2 3 (by decide) (by decide)).2.2 ?_
  refine e_iadd (pc' := 21) dX11_coinsGiven_20 rfl ?_
  refine e_istore_n (pc' := 22) (L' := [some (rv 88), some (iv ((((0 + (ρ.1 (b + 5) 0)) + (ρ.1 (b + 5) 1)) + (ρ.1 (b + 5) 2)) + (ρ.1 (b + 5) 3))), some (iv 3)]) dX11_coinsGiven_21 rfl (by decide) rfl ?_
  refine e_iinc (pc' := 25) (L' := [some (rv 88), some (iv ((((0 + (ρ.1 (b + 5) 0)) + (ρ.1 (b + 5) 1)) + (ρ.1 (b + 5) 2)) + (ρ.1 (b + 5) 3))), some (iv 4)]) dX11_coinsGiven_22 rfl rfl (by decide) rfl ?_
  refine e_goto (pc' := 4) dX11_coinsGiven_25 (by decide) ?_
  refine e_iload_n (pc' := 5) dX11_coinsGiven_4 rfl rfl ?_
  refine e_bipush (pc' := 7) (z := 15) dX11_coinsGiven_5 rfl (by decide) ?_
  refine e_icmpI (pc' := 10) (t := 28) dX11_coinsGiven_7 (by decide) rfl ⟨by omega, by omega⟩ ⟨by omega, by omega⟩ (fun c2_5 => absurd (show 15 ≤ (4 : Int) from c2_5) (by decide)) (fun _ => ?_)
  refine e_iload_n (pc' := 11) dX11_coinsGiven_10 rfl rfl ?_
  refine e_aload_n (pc' := 12) dX11_coinsGiven_11 rfl rfl ?_
  refine e_getR (pc' := 15) dX11_coinsGiven_12 rfl f_11_7 h_88 rfl ?_
  refine e_bipush (pc' := 17) (z := 35) dX11_coinsGiven_15 rfl (by decide) ?_
  refine e_iload_n (pc' := 18) dX11_coinsGiven_17 rfl rfl ?_
  refine e_iadd (pc' := 19) dX11_coinsGiven_18 rfl ?_
  refine e_iald (pc' := 20) (v := (ρ.1 (b + 5) 4)) dX11_coinsGiven_19 rfl h_89 (by decide) (by omega) (by omega) (h.2.2.1.2.2.2 4 (by decide) (by decide)).2.2 ?_
  refine e_iadd (pc' := 21) dX11_coinsGiven_20 rfl ?_
  refine e_istore_n (pc' := 22) (L' := [some (rv 88), some (iv (((((0 + (ρ.1 (b + 5) 0)) + (ρ.1 (b + 5) 1)) + (ρ.1 (b + 5) 2)) + (ρ.1 (b + 5) 3)) + (ρ.1 (b + 5) 4))), some (iv 4)]) dX11_coinsGiven_21 rfl (by decide) rfl ?_
  refine e_iinc (pc' := 25) (L' := [some (rv 88), some (iv (((((0 + (ρ.1 (b + 5) 0)) + (ρ.1 (b + 5) 1)) + (ρ.1 (b + 5) 2)) + (ρ.1 (b + 5) 3)) + (ρ.1 (b + 5) 4))), some (iv 5)]) dX11_coinsGiven_22 rfl rfl (by decide) rfl ?_
  refine e_goto (pc' := 4) dX11_coinsGiven_25 (by decide) ?_
  refine e_iload_n (pc' := 5) dX11_coinsGiven_4 rfl rfl ?_
  refine e_bipush (pc' := 7) (z := 15) dX11_coinsGiven_5 rfl (by decide) ?_
  refine e_icmpI (pc' := 10) (t := 28) dX11_coinsGiven_7 (by decide) rfl ⟨by omega, by omega⟩ ⟨by omega, by omega⟩ (fun c2_6 => absurd (show 15 ≤ (5 : Int) from c2_6) (by decide)) (fun _ => ?_)
  refine e_iload_n (pc' := 11) dX11_coinsGiven_10 rfl rfl ?_
  refine e_aload_n (pc' := 12) dX11_coinsGiven_11 rfl rfl ?_
  refine e_getR (pc' := 15) dX11_coinsGiven_12 rfl f_11_7 h_88 rfl ?_
  refine e_bipush (pc' := 17) (z := 35) dX11_coinsGiven_15 rfl (by decide) ?_
  refine e_iload_n (pc' := 18) dX11_coinsGiven_17 rfl rfl ?_
  refine e_iadd (pc' := 19) dX11_coinsGiven_18 rfl ?_
  refine e_iald (pc' := 20) (v := (ρ.1 (b + 5) 5)) dX11_coinsGiven_19 rfl h_89 (by decide) (by omega) (by omega) (h.2.2.1.2.2.2 5 (by decide) (by decide)).2.2 ?_
  refine e_iadd (pc' := 21) dX11_coinsGiven_20 rfl ?_
  refine e_istore_n (pc' := 22) (L' := [some (rv 88), some (iv ((((((0 + (ρ.1 (b + 5) 0)) + (ρ.1 (b + 5) 1)) + (ρ.1 (b + 5) 2)) + (ρ.1 (b + 5) 3)) + (ρ.1 (b + 5) 4)) + (ρ.1 (b + 5) 5))), some (iv 5)]) dX11_coinsGiven_21 rfl (by decide) rfl ?_
  refine e_iinc (pc' := 25) (L' := [some (rv 88), some (iv ((((((0 + (ρ.1 (b + 5) 0)) + (ρ.1 (b + 5) 1)) + (ρ.1 (b + 5) 2)) + (ρ.1 (b + 5) 3)) + (ρ.1 (b + 5) 4)) + (ρ.1 (b + 5) 5))), some (iv 6)]) dX11_coinsGiven_22 rfl rfl (by decide) rfl ?_
  refine e_goto (pc' := 4) dX11_coinsGiven_25 (by decide) ?_
  refine e_iload_n (pc' := 5) dX11_coinsGiven_4 rfl rfl ?_
  refine e_bipush (pc' := 7) (z := 15) dX11_coinsGiven_5 rfl (by decide) ?_
  refine e_icmpI (pc' := 10) (t := 28) dX11_coinsGiven_7 (by decide) rfl ⟨by omega, by omega⟩ ⟨by omega, by omega⟩ (fun c2_7 => absurd (show 15 ≤ (6 : Int) from c2_7) (by decide)) (fun _ => ?_)
  refine e_iload_n (pc' := 11) dX11_coinsGiven_10 rfl rfl ?_
  refine e_aload_n (pc' := 12) dX11_coinsGiven_11 rfl rfl ?_
  refine e_getR (pc' := 15) dX11_coinsGiven_12 rfl f_11_7 h_88 rfl ?_
  refine e_bipush (pc' := 17) (z := 35) dX11_coinsGiven_15 rfl (by decide) ?_
  refine e_iload_n (pc' := 18) dX11_coinsGiven_17 rfl rfl ?_
  refine e_iadd (pc' := 19) dX11_coinsGiven_18 rfl ?_
  refine e_iald (pc' := 20) (v := (ρ.1 (b + 5) 6)) dX11_coinsGiven_19 rfl h_89 (by decide) (by omega) (by omega) (h.2.2.1.2.2.2 6 (by decide) (by decide)).2.2 ?_
  refine e_iadd (pc' := 21) dX11_coinsGiven_20 rfl ?_
  refine e_istore_n (pc' := 22) (L' := [some (rv 88), some (iv (((((((0 + (ρ.1 (b + 5) 0)) + (ρ.1 (b + 5) 1)) + (ρ.1 (b + 5) 2)) + (ρ.1 (b + 5) 3)) + (ρ.1 (b + 5) 4)) + (ρ.1 (b + 5) 5)) + (ρ.1 (b + 5) 6))), some (iv 6)]) dX11_coinsGiven_21 rfl (by decide) rfl ?_
  refine e_iinc (pc' := 25) (L' := [some (rv 88), some (iv (((((((0 + (ρ.1 (b + 5) 0)) + (ρ.1 (b + 5) 1)) + (ρ.1 (b + 5) 2)) + (ρ.1 (b + 5) 3)) + (ρ.1 (b + 5) 4)) + (ρ.1 (b + 5) 5)) + (ρ.1 (b + 5) 6))), some (iv 7)]) dX11_coinsGiven_22 rfl rfl (by decide) rfl ?_
  refine e_goto (pc' := 4) dX11_coinsGiven_25 (by decide) ?_
  refine e_iload_n (pc' := 5) dX11_coinsGiven_4 rfl rfl ?_
  refine e_bipush (pc' := 7) (z := 15) dX11_coinsGiven_5 rfl (by decide) ?_
  refine e_icmpI (pc' := 10) (t := 28) dX11_coinsGiven_7 (by decide) rfl ⟨by omega, by omega⟩ ⟨by omega, by omega⟩ (fun c2_8 => absurd (show 15 ≤ (7 : Int) from c2_8) (by decide)) (fun _ => ?_)
  refine e_iload_n (pc' := 11) dX11_coinsGiven_10 rfl rfl ?_
  refine e_aload_n (pc' := 12) dX11_coinsGiven_11 rfl rfl ?_
  refine e_getR (pc' := 15) dX11_coinsGiven_12 rfl f_11_7 h_88 rfl ?_
  refine e_bipush (pc' := 17) (z := 35) dX11_coinsGiven_15 rfl (by decide) ?_
  refine e_iload_n (pc' := 18) dX11_coinsGiven_17 rfl rfl ?_
  refine e_iadd (pc' := 19) dX11_coinsGiven_18 rfl ?_
  refine e_iald (pc' := 20) (v := (ρ.1 (b + 5) 7)) dX11_coinsGiven_19 rfl h_89 (by decide) (by omega) (by omega) (h.2.2.1.2.2.2 7 (by decide) (by decide)).2.2 ?_
  refine e_iadd (pc' := 21) dX11_coinsGiven_20 rfl ?_
  refine e_istore_n (pc' := 22) (L' := [some (rv 88), some (iv ((((((((0 + (ρ.1 (b + 5) 0)) + (ρ.1 (b + 5) 1)) + (ρ.1 (b + 5) 2)) + (ρ.1 (b + 5) 3)) + (ρ.1 (b + 5) 4)) + (ρ.1 (b + 5) 5)) + (ρ.1 (b + 5) 6)) + (ρ.1 (b + 5) 7))), some (iv 7)]) dX11_coinsGiven_21 rfl (by decide) rfl ?_
  refine e_iinc (pc' := 25) (L' := [some (rv 88), some (iv ((((((((0 + (ρ.1 (b + 5) 0)) + (ρ.1 (b + 5) 1)) + (ρ.1 (b + 5) 2)) + (ρ.1 (b + 5) 3)) + (ρ.1 (b + 5) 4)) + (ρ.1 (b + 5) 5)) + (ρ.1 (b + 5) 6)) + (ρ.1 (b + 5) 7))), some (iv 8)]) dX11_coinsGiven_22 rfl rfl (by decide) rfl ?_
  refine e_goto (pc' := 4) dX11_coinsGiven_25 (by decide) ?_
  refine e_iload_n (pc' := 5) dX11_coinsGiven_4 rfl rfl ?_
  refine e_bipush (pc' := 7) (z := 15) dX11_coinsGiven_5 rfl (by decide) ?_
  refine e_icmpI (pc' := 10) (t := 28) dX11_coinsGiven_7 (by decide) rfl ⟨by omega, by omega⟩ ⟨by omega, by omega⟩ (fun c2_9 => absurd (show 15 ≤ (8 : Int) from c2_9) (by decide)) (fun _ => ?_)
  refine e_iload_n (pc' := 11) dX11_coinsGiven_10 rfl rfl ?_
  refine e_aload_n (pc' := 12) dX11_coinsGiven_11 rfl rfl ?_
  refine e_getR (pc' := 15) dX11_coinsGiven_12 rfl f_11_7 h_88 rfl ?_
  refine e_bipush (pc' := 17) (z := 35) dX11_coinsGiven_15 rfl (by decide) ?_
  refine e_iload_n (pc' := 18) dX11_coinsGiven_17 rfl rfl ?_
  refine e_iadd (pc' := 19) dX11_coinsGiven_18 rfl ?_
  refine e_iald (pc' := 20) (v := (ρ.1 (b + 5) 8)) dX11_coinsGiven_19 rfl h_89 (by decide) (by omega) (by omega) (h.2.2.1.2.2.2 8 (by decide) (by decide)).2.2 ?_
  refine e_iadd (pc' := 21) dX11_coinsGiven_20 rfl ?_
  refine e_istore_n (pc' := 22) (L' := [some (rv 88), some (iv (((((((((0 + (ρ.1 (b + 5) 0)) + (ρ.1 (b + 5) 1)) + (ρ.1 (b + 5) 2)) + (ρ.1 (b + 5) 3)) + (ρ.1 (b + 5) 4)) + (ρ.1 (b + 5) 5)) + (ρ.1 (b + 5) 6)) + (ρ.1 (b + 5) 7)) + (ρ.1 (b + 5) 8))), some (iv 8)]) dX11_coinsGiven_21 rfl (by decide) rfl ?_
  refine e_iinc (pc' := 25) (L' := [some (rv 88), some (iv (((((((((0 + (ρ.1 (b + 5) 0)) + (ρ.1 (b + 5) 1)) + (ρ.1 (b + 5) 2)) + (ρ.1 (b + 5) 3)) + (ρ.1 (b + 5) 4)) + (ρ.1 (b + 5) 5)) + (ρ.1 (b + 5) 6)) + (ρ.1 (b + 5) 7)) + (ρ.1 (b + 5) 8))), some (iv 9)]) dX11_coinsGiven_22 rfl rfl (by decide) rfl ?_
  refine e_goto (pc' := 4) dX11_coinsGiven_25 (by decide) ?_
  refine e_iload_n (pc' := 5) dX11_coinsGiven_4 rfl rfl ?_
  refine e_bipush (pc' := 7) (z := 15) dX11_coinsGiven_5 rfl (by decide) ?_
  refine e_icmpI (pc' := 10) (t := 28) dX11_coinsGiven_7 (by decide) rfl ⟨by omega, by omega⟩ ⟨by omega, by omega⟩ (fun c2_10 => absurd (show 15 ≤ (9 : Int) from c2_10) (by decide)) (fun _ => ?_)
  refine e_iload_n (pc' := 11) dX11_coinsGiven_10 rfl rfl ?_
  refine e_aload_n (pc' := 12) dX11_coinsGiven_11 rfl rfl ?_
  refine e_getR (pc' := 15) dX11_coinsGiven_12 rfl f_11_7 h_88 rfl ?_
  refine e_bipush (pc' := 17) (z := 35) dX11_coinsGiven_15 rfl (by decide) ?_
  refine e_iload_n (pc' := 18) dX11_coinsGiven_17 rfl rfl ?_
  refine e_iadd (pc' := 19) dX11_coinsGiven_18 rfl ?_
  refine e_iald (pc' := 20) (v := (ρ.1 (b + 5) 9)) dX11_coinsGiven_19 rfl h_89 (by decide) (by omega) (by omega) (h.2.2.1.2.2.2 9 (by decide) (by decide)).2.2 ?_
  refine e_iadd (pc' := 21) dX11_coinsGiven_20 rfl ?_
  refine e_istore_n (pc' := 22) (L' := [some (rv 88), some (iv ((((((((((0 + (ρ.1 (b + 5) 0)) + (ρ.1 (b + 5) 1)) + (ρ.1 (b + 5) 2)) + (ρ.1 (b + 5) 3)) + (ρ.1 (b + 5) 4)) + (ρ.1 (b + 5) 5)) + (ρ.1 (b + 5) 6)) + (ρ.1 (b + 5) 7)) + (ρ.1 (b + 5) 8)) + (ρ.1 (b + 5) 9))), some (iv 9)]) dX11_coinsGiven_21 rfl (by decide) rfl ?_
  refine e_iinc (pc' := 25) (L' := [some (rv 88), some (iv ((((((((((0 + (ρ.1 (b + 5) 0)) + (ρ.1 (b + 5) 1)) + (ρ.1 (b + 5) 2)) + (ρ.1 (b + 5) 3)) + (ρ.1 (b + 5) 4)) + (ρ.1 (b + 5) 5)) + (ρ.1 (b + 5) 6)) + (ρ.1 (b + 5) 7)) + (ρ.1 (b + 5) 8)) + (ρ.1 (b + 5) 9))), some (iv 10)]) dX11_coinsGiven_22 rfl rfl (by decide) rfl ?_
  refine e_goto (pc' := 4) dX11_coinsGiven_25 (by decide) ?_
  refine e_iload_n (pc' := 5) dX11_coinsGiven_4 rfl rfl ?_
  refine e_bipush (pc' := 7) (z := 15) dX11_coinsGiven_5 rfl (by decide) ?_
  refine e_icmpI (pc' := 10) (t := 28) dX11_coinsGiven_7 (by decide) rfl ⟨by omega, by omega⟩ ⟨by omega, by omega⟩ (fun c2_11 => absurd (show 15 ≤ (10 : Int) from c2_11) (by decide)) (fun _ => ?_)
  refine e_iload_n (pc' := 11) dX11_coinsGiven_10 rfl rfl ?_
  refine e_aload_n (pc' := 12) dX11_coinsGiven_11 rfl rfl ?_
  refine e_getR (pc' := 15) dX11_coinsGiven_12 rfl f_11_7 h_88 rfl ?_
  refine e_bipush (pc' := 17) (z := 35) dX11_coinsGiven_15 rfl (by decide) ?_
  refine e_iload_n (pc' := 18) dX11_coinsGiven_17 rfl rfl ?_
  refine e_iadd (pc' := 19) dX11_coinsGiven_18 rfl ?_
  refine e_iald (pc' := 20) (v := (ρ.1 (b + 5) 10)) dX11_coinsGiven_19 rfl h_89 (by decide) (by omega) (by omega) (h.2.2.1.2.2.2 10 (by decide) (by decide)).2.2 ?_
  refine e_iadd (pc' := 21) dX11_coinsGiven_20 rfl ?_
  refine e_istore_n (pc' := 22) (L' := [some (rv 88), some (iv (((((((((((0 + (ρ.1 (b + 5) 0)) + (ρ.1 (b + 5) 1)) + (ρ.1 (b + 5) 2)) + (ρ.1 (b + 5) 3)) + (ρ.1 (b + 5) 4)) + (ρ.1 (b + 5) 5)) + (ρ.1 (b + 5) 6)) + (ρ.1 (b + 5) 7)) + (ρ.1 (b + 5) 8)) + (ρ.1 (b + 5) 9)) + (ρ.1 (b + 5) 10))), some (iv 10)]) dX11_coinsGiven_21 rfl (by decide) rfl ?_
  refine e_iinc (pc' := 25) (L' := [some (rv 88), some (iv (((((((((((0 + (ρ.1 (b + 5) 0)) + (ρ.1 (b + 5) 1)) + (ρ.1 (b + 5) 2)) + (ρ.1 (b + 5) 3)) + (ρ.1 (b + 5) 4)) + (ρ.1 (b + 5) 5)) + (ρ.1 (b + 5) 6)) + (ρ.1 (b + 5) 7)) + (ρ.1 (b + 5) 8)) + (ρ.1 (b + 5) 9)) + (ρ.1 (b + 5) 10))), some (iv 11)]) dX11_coinsGiven_22 rfl rfl (by decide) rfl ?_
  refine e_goto (pc' := 4) dX11_coinsGiven_25 (by decide) ?_
  refine e_iload_n (pc' := 5) dX11_coinsGiven_4 rfl rfl ?_
  refine e_bipush (pc' := 7) (z := 15) dX11_coinsGiven_5 rfl (by decide) ?_
  refine e_icmpI (pc' := 10) (t := 28) dX11_coinsGiven_7 (by decide) rfl ⟨by omega, by omega⟩ ⟨by omega, by omega⟩ (fun c2_12 => absurd (show 15 ≤ (11 : Int) from c2_12) (by decide)) (fun _ => ?_)
  refine e_iload_n (pc' := 11) dX11_coinsGiven_10 rfl rfl ?_
  refine e_aload_n (pc' := 12) dX11_coinsGiven_11 rfl rfl ?_
  refine e_getR (pc' := 15) dX11_coinsGiven_12 rfl f_11_7 h_88 rfl ?_
  refine e_bipush (pc' := 17) (z := 35) dX11_coinsGiven_15 rfl (by decide) ?_
  refine e_iload_n (pc' := 18) dX11_coinsGiven_17 rfl rfl ?_
  refine e_iadd (pc' := 19) dX11_coinsGiven_18 rfl ?_
  refine e_iald (pc' := 20) (v := (ρ.1 (b + 5) 11)) dX11_coinsGiven_19 rfl h_89 (by decide) (by omega) (by omega) (h.2.2.1.2.2.2 11 (by decide) (by decide)).2.2 ?_
  refine e_iadd (pc' := 21) dX11_coinsGiven_20 rfl ?_
  refine e_istore_n (pc' := 22) (L' := [some (rv 88), some (iv ((((((((((((0 + (ρ.1 (b + 5) 0)) + (ρ.1 (b + 5) 1)) + (ρ.1 (b + 5) 2)) + (ρ.1 (b + 5) 3)) + (ρ.1 (b + 5) 4)) + (ρ.1 (b + 5) 5)) + (ρ.1 (b + 5) 6)) + (ρ.1 (b + 5) 7)) + (ρ.1 (b + 5) 8)) + (ρ.1 (b + 5) 9)) + (ρ.1 (b + 5) 10)) + (ρ.1 (b + 5) 11))), some (iv 11)]) dX11_coinsGiven_21 rfl (by decide) rfl ?_
  refine e_iinc (pc' := 25) (L' := [some (rv 88), some (iv ((((((((((((0 + (ρ.1 (b + 5) 0)) + (ρ.1 (b + 5) 1)) + (ρ.1 (b + 5) 2)) + (ρ.1 (b + 5) 3)) + (ρ.1 (b + 5) 4)) + (ρ.1 (b + 5) 5)) + (ρ.1 (b + 5) 6)) + (ρ.1 (b + 5) 7)) + (ρ.1 (b + 5) 8)) + (ρ.1 (b + 5) 9)) + (ρ.1 (b + 5) 10)) + (ρ.1 (b + 5) 11))), some (iv 12)]) dX11_coinsGiven_22 rfl rfl (by decide) rfl ?_
  refine e_goto (pc' := 4) dX11_coinsGiven_25 (by decide) ?_
  refine e_iload_n (pc' := 5) dX11_coinsGiven_4 rfl rfl ?_
  refine e_bipush (pc' := 7) (z := 15) dX11_coinsGiven_5 rfl (by decide) ?_
  refine e_icmpI (pc' := 10) (t := 28) dX11_coinsGiven_7 (by decide) rfl ⟨by omega, by omega⟩ ⟨by omega, by omega⟩ (fun c2_13 => absurd (show 15 ≤ (12 : Int) from c2_13) (by decide)) (fun _ => ?_)
  refine e_iload_n (pc' := 11) dX11_coinsGiven_10 rfl rfl ?_
  refine e_aload_n (pc' := 12) dX11_coinsGiven_11 rfl rfl ?_
  refine e_getR (pc' := 15) dX11_coinsGiven_12 rfl f_11_7 h_88 rfl ?_
  refine e_bipush (pc' := 17) (z := 35) dX11_coinsGiven_15 rfl (by decide) ?_
  refine e_iload_n (pc' := 18) dX11_coinsGiven_17 rfl rfl ?_
  refine e_iadd (pc' := 19) dX11_coinsGiven_18 rfl ?_
  refine e_iald (pc' := 20) (v := (ρ.1 (b + 5) 12)) dX11_coinsGiven_19 rfl h_89 (by decide) (by omega) (by omega) (h.2.2.1.2.2.2 12 (by decide) (by decide)).2.2 ?_
  refine e_iadd (pc' := 21) dX11_coinsGiven_20 rfl ?_
  refine e_istore_n (pc' := 22) (L' := [some (rv 88), some (iv (((((((((((((0 + (ρ.1 (b + 5) 0)) + (ρ.1 (b + 5) 1)) + (ρ.1 (b + 5) 2)) + (ρ.1 (b + 5) 3)) + (ρ.1 (b + 5) 4)) + (ρ.1 (b + 5) 5)) + (ρ.1 (b + 5) 6)) + (ρ.1 (b + 5) 7)) + (ρ.1 (b + 5) 8)) + (ρ.1 (b + 5) 9)) + (ρ.1 (b + 5) 10)) + (ρ.1 (b + 5) 11)) + (ρ.1 (b + 5) 12))), some (iv 12)]) dX11_coinsGiven_21 rfl (by decide) rfl ?_
  refine e_iinc (pc' := 25) (L' := [some (rv 88), some (iv (((((((((((((0 + (ρ.1 (b + 5) 0)) + (ρ.1 (b + 5) 1)) + (ρ.1 (b + 5) 2)) + (ρ.1 (b + 5) 3)) + (ρ.1 (b + 5) 4)) + (ρ.1 (b + 5) 5)) + (ρ.1 (b + 5) 6)) + (ρ.1 (b + 5) 7)) + (ρ.1 (b + 5) 8)) + (ρ.1 (b + 5) 9)) + (ρ.1 (b + 5) 10)) + (ρ.1 (b + 5) 11)) + (ρ.1 (b + 5) 12))), some (iv 13)]) dX11_coinsGiven_22 rfl rfl (by decide) rfl ?_
  refine e_goto (pc' := 4) dX11_coinsGiven_25 (by decide) ?_
  refine e_iload_n (pc' := 5) dX11_coinsGiven_4 rfl rfl ?_
  refine e_bipush (pc' := 7) (z := 15) dX11_coinsGiven_5 rfl (by decide) ?_
  refine e_icmpI (pc' := 10) (t := 28) dX11_coinsGiven_7 (by decide) rfl ⟨by omega, by omega⟩ ⟨by omega, by omega⟩ (fun c2_14 => absurd (show 15 ≤ (13 : Int) from c2_14) (by decide)) (fun _ => ?_)
  refine e_iload_n (pc' := 11) dX11_coinsGiven_10 rfl rfl ?_
  refine e_aload_n (pc' := 12) dX11_coinsGiven_11 rfl rfl ?_
  refine e_getR (pc' := 15) dX11_coinsGiven_12 rfl f_11_7 h_88 rfl ?_
  refine e_bipush (pc' := 17) (z := 35) dX11_coinsGiven_15 rfl (by decide) ?_
  refine e_iload_n (pc' := 18) dX11_coinsGiven_17 rfl rfl ?_
  refine e_iadd (pc' := 19) dX11_coinsGiven_18 rfl ?_
  refine e_iald (pc' := 20) (v := (ρ.1 (b + 5) 13)) dX11_coinsGiven_19 rfl h_89 (by decide) (by omega) (by omega) (h.2.2.1.2.2.2 13 (by decide) (by decide)).2.2 ?_
  refine e_iadd (pc' := 21) dX11_coinsGiven_20 rfl ?_
  refine e_istore_n (pc' := 22) (L' := [some (rv 88), some (iv ((((((((((((((0 + (ρ.1 (b + 5) 0)) + (ρ.1 (b + 5) 1)) + (ρ.1 (b + 5) 2)) + (ρ.1 (b + 5) 3)) + (ρ.1 (b + 5) 4)) + (ρ.1 (b + 5) 5)) + (ρ.1 (b + 5) 6)) + (ρ.1 (b + 5) 7)) + (ρ.1 (b + 5) 8)) + (ρ.1 (b + 5) 9)) + (ρ.1 (b + 5) 10)) + (ρ.1 (b + 5) 11)) + (ρ.1 (b + 5) 12)) + (ρ.1 (b + 5) 13))), some (iv 13)]) dX11_coinsGiven_21 rfl (by decide) rfl ?_
  refine e_iinc (pc' := 25) (L' := [some (rv 88), some (iv ((((((((((((((0 + (ρ.1 (b + 5) 0)) + (ρ.1 (b + 5) 1)) + (ρ.1 (b + 5) 2)) + (ρ.1 (b + 5) 3)) + (ρ.1 (b + 5) 4)) + (ρ.1 (b + 5) 5)) + (ρ.1 (b + 5) 6)) + (ρ.1 (b + 5) 7)) + (ρ.1 (b + 5) 8)) + (ρ.1 (b + 5) 9)) + (ρ.1 (b + 5) 10)) + (ρ.1 (b + 5) 11)) + (ρ.1 (b + 5) 12)) + (ρ.1 (b + 5) 13))), some (iv 14)]) dX11_coinsGiven_22 rfl rfl (by decide) rfl ?_
  refine e_goto (pc' := 4) dX11_coinsGiven_25 (by decide) ?_
  refine e_iload_n (pc' := 5) dX11_coinsGiven_4 rfl rfl ?_
  refine e_bipush (pc' := 7) (z := 15) dX11_coinsGiven_5 rfl (by decide) ?_
  refine e_icmpI (pc' := 10) (t := 28) dX11_coinsGiven_7 (by decide) rfl ⟨by omega, by omega⟩ ⟨by omega, by omega⟩ (fun c2_15 => absurd (show 15 ≤ (14 : Int) from c2_15) (by decide)) (fun _ => ?_)
  refine e_iload_n (pc' := 11) dX11_coinsGiven_10 rfl rfl ?_
  refine e_aload_n (pc' := 12) dX11_coinsGiven_11 rfl rfl ?_
  refine e_getR (pc' := 15) dX11_coinsGiven_12 rfl f_11_7 h_88 rfl ?_
  refine e_bipush (pc' := 17) (z := 35) dX11_coinsGiven_15 rfl (by decide) ?_
  refine e_iload_n (pc' := 18) dX11_coinsGiven_17 rfl rfl ?_
  refine e_iadd (pc' := 19) dX11_coinsGiven_18 rfl ?_
  refine e_iald (pc' := 20) (v := (ρ.1 (b + 5) 14)) dX11_coinsGiven_19 rfl h_89 (by decide) (by omega) (by omega) (h.2.2.1.2.2.2 14 (by decide) (by decide)).2.2 ?_
  refine e_iadd (pc' := 21) dX11_coinsGiven_20 rfl ?_
  refine e_istore_n (pc' := 22) (L' := [some (rv 88), some (iv (((((((((((((((0 + (ρ.1 (b + 5) 0)) + (ρ.1 (b + 5) 1)) + (ρ.1 (b + 5) 2)) + (ρ.1 (b + 5) 3)) + (ρ.1 (b + 5) 4)) + (ρ.1 (b + 5) 5)) + (ρ.1 (b + 5) 6)) + (ρ.1 (b + 5) 7)) + (ρ.1 (b + 5) 8)) + (ρ.1 (b + 5) 9)) + (ρ.1 (b + 5) 10)) + (ρ.1 (b + 5) 11)) + (ρ.1 (b + 5) 12)) + (ρ.1 (b + 5) 13)) + (ρ.1 (b + 5) 14))), some (iv 14)]) dX11_coinsGiven_21 rfl (by decide) rfl ?_
  refine e_iinc (pc' := 25) (L' := [some (rv 88), some (iv (((((((((((((((0 + (ρ.1 (b + 5) 0)) + (ρ.1 (b + 5) 1)) + (ρ.1 (b + 5) 2)) + (ρ.1 (b + 5) 3)) + (ρ.1 (b + 5) 4)) + (ρ.1 (b + 5) 5)) + (ρ.1 (b + 5) 6)) + (ρ.1 (b + 5) 7)) + (ρ.1 (b + 5) 8)) + (ρ.1 (b + 5) 9)) + (ρ.1 (b + 5) 10)) + (ρ.1 (b + 5) 11)) + (ρ.1 (b + 5) 12)) + (ρ.1 (b + 5) 13)) + (ρ.1 (b + 5) 14))), some (iv 15)]) dX11_coinsGiven_22 rfl rfl (by decide) rfl ?_
  refine e_goto (pc' := 4) dX11_coinsGiven_25 (by decide) ?_
  refine e_iload_n (pc' := 5) dX11_coinsGiven_4 rfl rfl ?_
  refine e_bipush (pc' := 7) (z := 15) dX11_coinsGiven_5 rfl (by decide) ?_
  refine e_icmpI (pc' := 10) (t := 28) dX11_coinsGiven_7 (by decide) rfl ⟨by omega, by omega⟩ ⟨by omega, by omega⟩ (fun _ => ?_) (fun c2_16 => absurd (show 15 ≤ (15 : Int) by decide) c2_16)
  refine e_iload_n (pc' := 29) dX11_coinsGiven_28 rfl rfl ?_
  exact e_iret dX11_coinsGiven_29 rfl ⟨rfl, Nat.le_refl _⟩ ⟨_, rfl, rfl, by rw [sm_5 (u := fun g => gv (ρ.1 (b + 5)) g) hG (fun _ _ _ => rfl) (fun g a c => by unfold gv; rw [hX.1 g 0 (by omega) c (by decide) (by decide) (Or.inr a), hX.1 g 1 (by omega) c (by decide) (by decide) (Or.inr a), hX.1 g 2 (by omega) c (by decide) (by decide) (Or.inr a)]; rfl)]; unfold gv; simp only [Int.reduceMul, Int.reduceAdd]; omega⟩

set_option maxHeartbeats 4000000 in
set_option maxRecDepth 100000 in
theorem l_m_allCoin {X : AX} {d : Nat} {σ ρ : SG} {b : Nat} (h : MdI σ ρ b) : ∀ (k : Nat) (i cs : Int), 0 ≤ i → i ≤ (ρ.1 b 6) → (ρ.1 b 6) - i < k → cs = smI (ρ.1 (b + 1)) i → Ev X 0 0 (d + 1) mX11_allCoin 4 [some (rv 88), some (iv cs), some (iv i)] [] σ (QI (fun r σ' => σ' = σ ∧ r = smI (ρ.1 (b + 1)) (ρ.1 b 6))) := by
  intro k
  induction k with
  | zero => intros; omega
  | succ k ih =>
  intro i cs hi0 hi1 hik hc
  have ho := h.1
  have hX := h.2.1
  have hP := h.2.2.1
  have hG := ho.1
  have hW := ho.2.1
  refine e_iload_n (pc' := 5) dX11_allCoin_4 rfl rfl ?_
  refine e_aload_n (pc' := 6) dX11_allCoin_5 rfl rfl ?_
  refine e_cv0i (pc' := 9) dX11_allCoin_6 rfl k_11_76 h_88 rfl (Nat.le_of_ble_eq_true rfl) rfl rfl ⟨rfl, rfl⟩ ⟨Nat.zero_le _, Nat.zero_le _⟩ s_m_givers ?_
  intro r σ' hr; rw [hr.1, hr.2, h.2.2.1.1.1]; clear hr
  refine e_icmpI (pc' := 12) (t := 29) dX11_allCoin_9 (by decide) rfl ⟨by omega, by omega⟩ ⟨by omega, by omega⟩ (fun (c2_1 : (ρ.1 b 6) ≤ (i : Int)) => ?_) (fun (c2_1 : ¬ ((ρ.1 b 6) ≤ (i : Int))) => ?_)
  · refine e_iload_n (pc' := 30) dX11_allCoin_29 rfl rfl ?_
    exact e_iret dX11_allCoin_30 rfl ⟨rfl, Nat.le_refl _⟩ ⟨_, rfl, rfl, by rw [hc, show (ρ.1 b 6) = i by omega]⟩
  · have hcn : σ.1 89 (0 + i) = ρ.1 (b + 1) i := by rw [show 0 + i = i by omega]; exact hP.2.1 i (by omega) (by omega)
    refine e_iload_n (pc' := 13) dX11_allCoin_12 rfl rfl ?_
    refine e_aload_n (pc' := 14) dX11_allCoin_13 rfl rfl ?_
    refine e_getR (pc' := 17) dX11_allCoin_14 rfl f_11_7 h_88 rfl ?_
    refine e_iconst (pc' := 18) dX11_allCoin_17 rfl ?_
    refine e_iload_n (pc' := 19) dX11_allCoin_18 rfl rfl ?_
    refine e_iadd (pc' := 20) dX11_allCoin_19 rfl ?_
    refine e_iald (pc' := 21) (v := (ρ.1 (b + 1) i)) dX11_allCoin_20 rfl h_89 (by decide) (by omega) (by omega) hcn ?_
    refine e_iadd (pc' := 22) dX11_allCoin_21 rfl ?_
    refine e_istore_n (pc' := 23) (L' := [some (rv 88), some (iv (cs + (ρ.1 (b + 1) i))), some (iv i)]) dX11_allCoin_22 rfl (by decide) rfl ?_
    refine e_iinc (pc' := 26) (L' := [some (rv 88), some (iv (cs + (ρ.1 (b + 1) i))), some (iv (i + 1))]) dX11_allCoin_23 rfl rfl (by decide) rfl ?_
    refine e_goto (pc' := 4) dX11_allCoin_26 (by decide) ?_
    exact ih _ _ (by omega) (by omega) (by omega) (by rw [smI_s _ hi0, hc])

set_option maxHeartbeats 4000000 in
set_option maxRecDepth 100000 in
theorem s_m_allCoin {X : AX} {d : Nat} {σ ρ : SG} {b : Nat} (h : MdI σ ρ b) : Ev X 0 0 (d + 1) mX11_allCoin 0 [some (rv 88), none, none] [] σ (QI (fun r σ' => σ' = σ ∧ r = smI (ρ.1 (b + 1)) (ρ.1 b 6))) := by
  have ho := h.1
  have hX := h.2.1
  have hP := h.2.2.1
  have hG := ho.1
  have hW := ho.2.1
  refine e_iconst (pc' := 1) dX11_allCoin_0 rfl ?_
  refine e_istore_n (pc' := 2) (L' := [some (rv 88), some (iv 0), none]) dX11_allCoin_1 rfl (by decide) rfl ?_
  refine e_iconst (pc' := 3) dX11_allCoin_2 rfl ?_
  refine e_istore_n (pc' := 4) (L' := [some (rv 88), some (iv 0), some (iv 0)]) dX11_allCoin_3 rfl (by decide) rfl ?_
  exact l_m_allCoin h ((ρ.1 b 6) + 1).toNat 0 0 (by omega) (by omega) (by omega) rfl

set_option maxHeartbeats 4000000 in
set_option maxRecDepth 100000 in
theorem s_m_count {X : AX} {d : Nat} {σ ρ : SG} {b : Nat} (h : MdI σ ρ b) (w : Int) (hw : rg w) : Ev X 0 0 (d + 2) mX11_count 0 [some (rv 88), some (iv w)] [] σ (QI (fun r σ' => σ' = σ ∧ (if w = 0 then r = (ρ.1 b 6) else if w = 1 then r = (ρ.1 b 7) else if w = 2 then r = smI (fun g => gv (ρ.1 (b + 5)) g) (ρ.1 b 6) else if w = 3 then r = smI (ρ.1 (b + 1)) (ρ.1 b 6) else r = -2))) := by
  have ho := h.1
  have hX := h.2.1
  have hP := h.2.2.1
  have hG := ho.1
  have hW := ho.2.1
  obtain ⟨hw1, hw2⟩ := hw
  refine e_iload_n (pc' := 1) dX11_count_0 rfl rfl ?_
  refine e_ifI (pc' := 4) (t := 11) dX11_count_1 (by decide) rfl ⟨by omega, by omega⟩ (fun (c2_1 : (w : Int) ≠ 0) => ?_) (fun (c2_1 : ¬ ((w : Int) ≠ 0)) => ?_)
  · refine e_iload_n (pc' := 12) dX11_count_11 rfl rfl ?_
    refine e_iconst (pc' := 13) dX11_count_12 rfl ?_
    refine e_icmpI (pc' := 16) (t := 23) dX11_count_13 (by decide) rfl ⟨by omega, by omega⟩ ⟨by omega, by omega⟩ (fun (c4_2 : (w : Int) ≠ 1) => ?_) (fun (c4_2 : ¬ ((w : Int) ≠ 1)) => ?_)
    · refine e_iload_n (pc' := 24) dX11_count_23 rfl rfl ?_
      refine e_iconst (pc' := 25) dX11_count_24 rfl ?_
      refine e_icmpI (pc' := 28) (t := 35) dX11_count_25 (by decide) rfl ⟨by omega, by omega⟩ ⟨by omega, by omega⟩ (fun (c6_3 : (w : Int) ≠ 2) => ?_) (fun (c6_3 : ¬ ((w : Int) ≠ 2)) => ?_)
      · refine e_iload_n (pc' := 36) dX11_count_35 rfl rfl ?_
        refine e_iconst (pc' := 37) dX11_count_36 rfl ?_
        refine e_icmpI (pc' := 40) (t := 47) dX11_count_37 (by decide) rfl ⟨by omega, by omega⟩ ⟨by omega, by omega⟩ (fun (c8_4 : (w : Int) ≠ 3) => ?_) (fun (c8_4 : ¬ ((w : Int) ≠ 3)) => ?_)
        · refine e_bipush (pc' := 49) (z := (-2)) dX11_count_47 rfl (by decide) ?_
          exact e_iret dX11_count_49 rfl ⟨rfl, Nat.le_refl _⟩ ⟨_, rfl, rfl, by (repeat (first | (rw [if_pos (by omega)]) | (rw [if_neg (by omega)])))⟩
        · refine e_aload_n (pc' := 41) dX11_count_40 rfl rfl ?_
          refine e_cv0i (pc' := 44) dX11_count_41 rfl k_11_236 h_88 rfl (Nat.le_of_ble_eq_true rfl) rfl rfl ⟨rfl, rfl⟩ ⟨Nat.zero_le _, Nat.zero_le _⟩ (s_m_allCoin h) ?_
          intro r σ' hr; rw [hr.1, hr.2]; clear hr
          refine e_goto (pc' := 49) dX11_count_44 (by decide) ?_
          exact e_iret dX11_count_49 rfl ⟨rfl, Nat.le_refl _⟩ ⟨_, rfl, rfl, by (repeat (first | (rw [if_pos (by omega)]) | (rw [if_neg (by omega)])))⟩
      · refine e_aload_n (pc' := 29) dX11_count_28 rfl rfl ?_
        refine e_cv0i (pc' := 32) dX11_count_29 rfl k_11_245 h_88 rfl (Nat.le_of_ble_eq_true rfl) rfl rfl ⟨rfl, rfl⟩ ⟨Nat.zero_le _, Nat.zero_le _⟩ (s_m_coinsGiven h) ?_
        intro r σ' hr; rw [hr.1, hr.2]; clear hr
        refine e_goto (pc' := 49) dX11_count_32 (by decide) ?_
        exact e_iret dX11_count_49 rfl ⟨rfl, Nat.le_refl _⟩ ⟨_, rfl, rfl, by (repeat (first | (rw [if_pos (by omega)]) | (rw [if_neg (by omega)])))⟩
    · refine e_aload_n (pc' := 17) dX11_count_16 rfl rfl ?_
      refine e_cv0i (pc' := 20) dX11_count_17 rfl k_11_84 h_88 rfl (Nat.le_of_ble_eq_true rfl) rfl rfl ⟨rfl, rfl⟩ ⟨Nat.zero_le _, Nat.zero_le _⟩ s_m_works ?_
      intro r σ' hr; rw [hr.1, hr.2, h.2.2.1.1.2.1]; clear hr
      refine e_goto (pc' := 49) dX11_count_20 (by decide) ?_
      exact e_iret dX11_count_49 rfl ⟨rfl, Nat.le_refl _⟩ ⟨_, rfl, rfl, by (repeat (first | (rw [if_pos (by omega)]) | (rw [if_neg (by omega)])))⟩
  · refine e_aload_n (pc' := 5) dX11_count_4 rfl rfl ?_
    refine e_cv0i (pc' := 8) dX11_count_5 rfl k_11_76 h_88 rfl (Nat.le_of_ble_eq_true rfl) rfl rfl ⟨rfl, rfl⟩ ⟨Nat.zero_le _, Nat.zero_le _⟩ s_m_givers ?_
    intro r σ' hr; rw [hr.1, hr.2, h.2.2.1.1.1]; clear hr
    refine e_goto (pc' := 49) dX11_count_8 (by decide) ?_
    exact e_iret dX11_count_49 rfl ⟨rfl, Nat.le_refl _⟩ ⟨_, rfl, rfl, by (repeat (first | (rw [if_pos (by omega)]) | (rw [if_neg (by omega)])))⟩
