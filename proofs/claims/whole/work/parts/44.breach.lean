set_option maxHeartbeats 4000000 in
set_option maxRecDepth 100000 in
theorem l_breach_8 {X : AX} {d : Nat} {σ : SG} (ho : ScOK σ 1) (law top : Int) (hl : 0 ≤ law ∧ law ≤ 3) (ht : 1 ≤ top ∧ top ≤ 12) : Ev X 0 0 (d + 6) mX10_breach 29 [some (rv 0), some (iv 0), some (iv law), some (iv top), none, none, none] [] σ (QI (fun v σ' => v = brA (fun a b => hdB σ (rcN 1 0) law top a b) top (top + 1).toNat 0 ∧ Fr [37, 38] σ σ')) := by
  refine e_aload_n (pc' := 30) dX10_breach_29 rfl rfl ?_
  refine e_getR (pc' := 33) dX10_breach_30 rfl f_10_10 h_0 rfl ?_
  refine e_getR (pc' := 36) dX10_breach_33 rfl f_10_133 h_1 rfl ?_
  refine e_iload_n (pc' := 37) dX10_breach_36 rfl rfl ?_
  refine e_aald (pc' := 38) (k := 8) dX10_breach_37 rfl h_7 (by decide) (by decide) (by omega) (by omega) rfl ?_
  refine e_astore (pc' := 40) (L' := [some (rv 0), some (iv 0), some (iv law), some (iv top), some (rv 8), none, none]) dX10_breach_38 rfl (by decide) rfl ?_
  refine e_iconst (pc' := 41) dX10_breach_40 rfl ?_
  refine e_istore (pc' := 43) (L' := [some (rv 0), some (iv 0), some (iv law), some (iv top), some (rv 8), some (iv 0), none]) dX10_breach_41 rfl (by decide) rfl ?_
  exact l_brA_8 ho law top hl ht (top + 1).toNat 0 σ _ (by omega) (by omega) rfl Fr.rf

set_option maxHeartbeats 4000000 in
set_option maxRecDepth 100000 in
theorem l_breach_11 {X : AX} {d : Nat} {σ : SG} (ho : ScOK σ 1) (law top : Int) (hl : 0 ≤ law ∧ law ≤ 3) (ht : 1 ≤ top ∧ top ≤ 12) : Ev X 0 0 (d + 6) mX10_breach 29 [some (rv 0), some (iv 1), some (iv law), some (iv top), none, none, none] [] σ (QI (fun v σ' => v = brA (fun a b => hdB σ (rcN 1 1) law top a b) top (top + 1).toNat 0 ∧ Fr [37, 38] σ σ')) := by
  refine e_aload_n (pc' := 30) dX10_breach_29 rfl rfl ?_
  refine e_getR (pc' := 33) dX10_breach_30 rfl f_10_10 h_0 rfl ?_
  refine e_getR (pc' := 36) dX10_breach_33 rfl f_10_133 h_1 rfl ?_
  refine e_iload_n (pc' := 37) dX10_breach_36 rfl rfl ?_
  refine e_aald (pc' := 38) (k := 11) dX10_breach_37 rfl h_7 (by decide) (by decide) (by omega) (by omega) rfl ?_
  refine e_astore (pc' := 40) (L' := [some (rv 0), some (iv 1), some (iv law), some (iv top), some (rv 11), none, none]) dX10_breach_38 rfl (by decide) rfl ?_
  refine e_iconst (pc' := 41) dX10_breach_40 rfl ?_
  refine e_istore (pc' := 43) (L' := [some (rv 0), some (iv 1), some (iv law), some (iv top), some (rv 11), some (iv 0), none]) dX10_breach_41 rfl (by decide) rfl ?_
  exact l_brA_11 ho law top hl ht (top + 1).toNat 0 σ _ (by omega) (by omega) rfl Fr.rf

set_option maxHeartbeats 4000000 in
set_option maxRecDepth 100000 in
theorem l_breach_14 {X : AX} {d : Nat} {σ : SG} (ho : ScOK σ 1) (law top : Int) (hl : 0 ≤ law ∧ law ≤ 3) (ht : 1 ≤ top ∧ top ≤ 12) : Ev X 0 0 (d + 6) mX10_breach 29 [some (rv 0), some (iv 2), some (iv law), some (iv top), none, none, none] [] σ (QI (fun v σ' => v = brA (fun a b => hdB σ (rcN 1 2) law top a b) top (top + 1).toNat 0 ∧ Fr [37, 38] σ σ')) := by
  refine e_aload_n (pc' := 30) dX10_breach_29 rfl rfl ?_
  refine e_getR (pc' := 33) dX10_breach_30 rfl f_10_10 h_0 rfl ?_
  refine e_getR (pc' := 36) dX10_breach_33 rfl f_10_133 h_1 rfl ?_
  refine e_iload_n (pc' := 37) dX10_breach_36 rfl rfl ?_
  refine e_aald (pc' := 38) (k := 14) dX10_breach_37 rfl h_7 (by decide) (by decide) (by omega) (by omega) rfl ?_
  refine e_astore (pc' := 40) (L' := [some (rv 0), some (iv 2), some (iv law), some (iv top), some (rv 14), none, none]) dX10_breach_38 rfl (by decide) rfl ?_
  refine e_iconst (pc' := 41) dX10_breach_40 rfl ?_
  refine e_istore (pc' := 43) (L' := [some (rv 0), some (iv 2), some (iv law), some (iv top), some (rv 14), some (iv 0), none]) dX10_breach_41 rfl (by decide) rfl ?_
  exact l_brA_14 ho law top hl ht (top + 1).toNat 0 σ _ (by omega) (by omega) rfl Fr.rf

set_option maxHeartbeats 4000000 in
set_option maxRecDepth 100000 in
theorem s_breach {X : AX} {d : Nat} {σ : SG} (ho : ScOK σ 1) (u law top : Int) (hu : rg u) (hl : rg law) (ht : rg top) : Ev X 0 0 (d + 6) mX10_breach 0 [some (rv 0), some (iv u), some (iv law), some (iv top), none, none, none] [] σ (QI (fun v σ' => v = (if (0 ≤ u ∧ u ≤ 2) ∧ (0 ≤ law ∧ law ≤ 3) ∧ (1 ≤ top ∧ top ≤ 12) then brA (fun a b => hdB σ (rcN 1 u) law top a b) top (top + 1).toNat 0 else -2) ∧ Fr [37, 38] σ σ')) := by
  obtain ⟨hu1, hu2⟩ := hu
  obtain ⟨hl1, hl2⟩ := hl
  obtain ⟨ht1, ht2⟩ := ht
  refine e_iload_n (pc' := 1) dX10_breach_0 rfl rfl ?_
  refine e_cs1i (pc' := 4) dX10_breach_1 rfl pn_10_129 k_10_129 (Nat.le_of_ble_eq_true rfl) rfl rfl ⟨rfl, rfl⟩ ⟨Nat.zero_le _, Nat.zero_le _⟩ (s_isRule u ⟨by omega, by omega⟩) ?_
  intro r σ' hr; rw [hr.1, hr.2]; clear hr
  refine e_ifI (pc' := 7) (t := 26) dX10_breach_4 (by decide) rfl ⟨by first | omega | (split <;> omega), by first | omega | (split <;> omega)⟩ (fun (c2_1 : ((if 0 ≤ u ∧ u ≤ 2 then 1 else 0) : Int) = 0) => ?_) (fun (c2_1 : ¬ (((if 0 ≤ u ∧ u ≤ 2 then 1 else 0) : Int) = 0)) => ?_)
  · have c2_1n : ¬ (0 ≤ u ∧ u ≤ 2) := fun q => absurd (if_pos q : (if 0 ≤ u ∧ u ≤ 2 then (1 : Int) else 0) = 1) (by have := c2_1; omega)
    refine e_bipush (pc' := 28) (z := (-2)) dX10_breach_26 rfl (by decide) ?_
    exact e_iret dX10_breach_28 rfl ⟨rfl, Nat.le_refl _⟩ ⟨_, rfl, by rw [if_neg (by omega)], Fr.rf⟩
  · have c2_1n : 0 ≤ u ∧ u ≤ 2 := Classical.byContradiction (fun q => absurd (if_neg q : (if 0 ≤ u ∧ u ≤ 2 then (1 : Int) else 0) = 0) (by have := c2_1; omega))
    refine e_iload_n (pc' := 8) dX10_breach_7 rfl rfl ?_
    refine e_iconst (pc' := 9) dX10_breach_8 rfl ?_
    refine e_cs2i (pc' := 12) dX10_breach_9 rfl pn_10_89 k_10_89 (Nat.le_of_ble_eq_true rfl) rfl rfl ⟨rfl, rfl⟩ ⟨Nat.zero_le _, Nat.zero_le _⟩ (s_isWithin law 3 ⟨by omega, by omega⟩ ⟨by omega, by omega⟩) ?_
    intro r σ' hr; rw [hr.1, hr.2]; clear hr
    refine e_ifI (pc' := 15) (t := 26) dX10_breach_12 (by decide) rfl ⟨by first | omega | (split <;> omega), by first | omega | (split <;> omega)⟩ (fun (c4_2 : ((if 0 ≤ law ∧ law ≤ 3 then 1 else 0) : Int) = 0) => ?_) (fun (c4_2 : ¬ (((if 0 ≤ law ∧ law ≤ 3 then 1 else 0) : Int) = 0)) => ?_)
    · have c4_2n : ¬ (0 ≤ law ∧ law ≤ 3) := fun q => absurd (if_pos q : (if 0 ≤ law ∧ law ≤ 3 then (1 : Int) else 0) = 1) (by have := c4_2; omega)
      refine e_bipush (pc' := 28) (z := (-2)) dX10_breach_26 rfl (by decide) ?_
      exact e_iret dX10_breach_28 rfl ⟨rfl, Nat.le_refl _⟩ ⟨_, rfl, by rw [if_neg (by omega)], Fr.rf⟩
    · have c4_2n : 0 ≤ law ∧ law ≤ 3 := Classical.byContradiction (fun q => absurd (if_neg q : (if 0 ≤ law ∧ law ≤ 3 then (1 : Int) else 0) = 0) (by have := c4_2; omega))
      refine e_iload_n (pc' := 16) dX10_breach_15 rfl rfl ?_
      refine e_iconst (pc' := 17) dX10_breach_16 rfl ?_
      refine e_icmpI (pc' := 20) (t := 26) dX10_breach_17 (by decide) rfl ⟨by first | omega | (split <;> omega), by first | omega | (split <;> omega)⟩ ⟨by omega, by omega⟩ (fun (c6_3 : (top : Int) < 1) => ?_) (fun (c6_3 : ¬ ((top : Int) < 1)) => ?_)
      · refine e_bipush (pc' := 28) (z := (-2)) dX10_breach_26 rfl (by decide) ?_
        exact e_iret dX10_breach_28 rfl ⟨rfl, Nat.le_refl _⟩ ⟨_, rfl, by rw [if_neg (by omega)], Fr.rf⟩
      · refine e_iload_n (pc' := 21) dX10_breach_20 rfl rfl ?_
        refine e_bipush (pc' := 23) (z := 12) dX10_breach_21 rfl (by decide) ?_
        refine e_icmpI (pc' := 26) (t := 29) dX10_breach_23 (by decide) rfl ⟨by first | omega | (split <;> omega), by first | omega | (split <;> omega)⟩ ⟨by omega, by omega⟩ (fun (c8_4 : (top : Int) ≤ 12) => ?_) (fun (c8_4 : ¬ ((top : Int) ≤ 12)) => ?_)
        · rw [if_pos (by omega)]
          have hq3 : u = 0 ∨ u = 1 ∨ u = 2 := by omega
          rcases hq3 with rfl | rfl | rfl
          · exact l_breach_8 ho law top (by omega) (by omega)
          · exact l_breach_11 ho law top (by omega) (by omega)
          · exact l_breach_14 ho law top (by omega) (by omega)
        · refine e_bipush (pc' := 28) (z := (-2)) dX10_breach_26 rfl (by decide) ?_
          exact e_iret dX10_breach_28 rfl ⟨rfl, Nat.le_refl _⟩ ⟨_, rfl, by rw [if_neg (by omega)], Fr.rf⟩

set_option maxHeartbeats 4000000 in
set_option maxRecDepth 100000 in
theorem l_fault_8 {X : AX} {d : Nat} {σ : SG} : Ev X 0 0 (d + 2) mX10_fault 7 [some (rv 0), some (iv 0)] [] σ (QI (fun v σ' => v = σ.1 (rcN 1 0) 4 ∧ σ' = σ)) := by
  refine e_aload_n (pc' := 8) dX10_fault_7 rfl rfl ?_
  refine e_getR (pc' := 11) dX10_fault_8 rfl f_10_10 h_0 rfl ?_
  refine e_getR (pc' := 14) dX10_fault_11 rfl f_10_133 h_1 rfl ?_
  refine e_iload_n (pc' := 15) dX10_fault_14 rfl rfl ?_
  refine e_aald (pc' := 16) (k := 8) dX10_fault_15 rfl h_7 (by decide) (by decide) (by omega) (by omega) rfl ?_
  refine e_getI (pc' := 19) (v := (σ.1 8 4)) dX10_fault_16 rfl f_10_149 h_8 rfl rfl ?_
  refine e_goto (pc' := 24) dX10_fault_19 (by decide) ?_
  exact e_iret dX10_fault_24 rfl ⟨rfl, Nat.le_refl _⟩ ⟨_, rfl, rfl, rfl⟩

set_option maxHeartbeats 4000000 in
set_option maxRecDepth 100000 in
theorem l_fault_11 {X : AX} {d : Nat} {σ : SG} : Ev X 0 0 (d + 2) mX10_fault 7 [some (rv 0), some (iv 1)] [] σ (QI (fun v σ' => v = σ.1 (rcN 1 1) 4 ∧ σ' = σ)) := by
  refine e_aload_n (pc' := 8) dX10_fault_7 rfl rfl ?_
  refine e_getR (pc' := 11) dX10_fault_8 rfl f_10_10 h_0 rfl ?_
  refine e_getR (pc' := 14) dX10_fault_11 rfl f_10_133 h_1 rfl ?_
  refine e_iload_n (pc' := 15) dX10_fault_14 rfl rfl ?_
  refine e_aald (pc' := 16) (k := 11) dX10_fault_15 rfl h_7 (by decide) (by decide) (by omega) (by omega) rfl ?_
  refine e_getI (pc' := 19) (v := (σ.1 11 4)) dX10_fault_16 rfl f_10_149 h_11 rfl rfl ?_
  refine e_goto (pc' := 24) dX10_fault_19 (by decide) ?_
  exact e_iret dX10_fault_24 rfl ⟨rfl, Nat.le_refl _⟩ ⟨_, rfl, rfl, rfl⟩

set_option maxHeartbeats 4000000 in
set_option maxRecDepth 100000 in
theorem l_fault_14 {X : AX} {d : Nat} {σ : SG} : Ev X 0 0 (d + 2) mX10_fault 7 [some (rv 0), some (iv 2)] [] σ (QI (fun v σ' => v = σ.1 (rcN 1 2) 4 ∧ σ' = σ)) := by
  refine e_aload_n (pc' := 8) dX10_fault_7 rfl rfl ?_
  refine e_getR (pc' := 11) dX10_fault_8 rfl f_10_10 h_0 rfl ?_
  refine e_getR (pc' := 14) dX10_fault_11 rfl f_10_133 h_1 rfl ?_
  refine e_iload_n (pc' := 15) dX10_fault_14 rfl rfl ?_
  refine e_aald (pc' := 16) (k := 14) dX10_fault_15 rfl h_7 (by decide) (by decide) (by omega) (by omega) rfl ?_
  refine e_getI (pc' := 19) (v := (σ.1 14 4)) dX10_fault_16 rfl f_10_149 h_14 rfl rfl ?_
  refine e_goto (pc' := 24) dX10_fault_19 (by decide) ?_
  exact e_iret dX10_fault_24 rfl ⟨rfl, Nat.le_refl _⟩ ⟨_, rfl, rfl, rfl⟩

set_option maxHeartbeats 4000000 in
set_option maxRecDepth 100000 in
theorem s_fault {X : AX} {d : Nat} {σ : SG} (u : Int) (hu : rg u) : Ev X 0 0 (d + 2) mX10_fault 0 [some (rv 0), some (iv u)] [] σ (QI (fun v σ' => v = (if 0 ≤ u ∧ u ≤ 2 then σ.1 (rcN 1 u) 4 else -2) ∧ σ' = σ)) := by
  obtain ⟨hu1, hu2⟩ := hu
  refine e_iload_n (pc' := 1) dX10_fault_0 rfl rfl ?_
  refine e_cs1i (pc' := 4) dX10_fault_1 rfl pn_10_129 k_10_129 (Nat.le_of_ble_eq_true rfl) rfl rfl ⟨rfl, rfl⟩ ⟨Nat.zero_le _, Nat.zero_le _⟩ (s_isRule u ⟨by omega, by omega⟩) ?_
  intro r σ' hr; rw [hr.1, hr.2]; clear hr
  refine e_ifI (pc' := 7) (t := 22) dX10_fault_4 (by decide) rfl ⟨by first | omega | (split <;> omega), by first | omega | (split <;> omega)⟩ (fun (c2_1 : ((if 0 ≤ u ∧ u ≤ 2 then 1 else 0) : Int) = 0) => ?_) (fun (c2_1 : ¬ (((if 0 ≤ u ∧ u ≤ 2 then 1 else 0) : Int) = 0)) => ?_)
  · have c2_1n : ¬ (0 ≤ u ∧ u ≤ 2) := fun q => absurd (if_pos q : (if 0 ≤ u ∧ u ≤ 2 then (1 : Int) else 0) = 1) (by have := c2_1; omega)
    refine e_bipush (pc' := 24) (z := (-2)) dX10_fault_22 rfl (by decide) ?_
    exact e_iret dX10_fault_24 rfl ⟨rfl, Nat.le_refl _⟩ ⟨_, rfl, by rw [if_neg (by omega)], rfl⟩
  · have c2_1n : 0 ≤ u ∧ u ≤ 2 := Classical.byContradiction (fun q => absurd (if_neg q : (if 0 ≤ u ∧ u ≤ 2 then (1 : Int) else 0) = 0) (by have := c2_1; omega))
    rw [if_pos (by omega)]
    have hq3 : u = 0 ∨ u = 1 ∨ u = 2 := by omega
    rcases hq3 with rfl | rfl | rfl
    · exact l_fault_8
    · exact l_fault_11
    · exact l_fault_14
