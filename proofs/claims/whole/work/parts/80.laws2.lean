/-! the reference: faults, laws, images -/
theorem MrR_cg {N N' : Int → Int} {ρ : SG} {b : Nat} (h : MrR N ρ b) (e : N' = N) : MrR N' ρ b := by rw [e]; exact h

set_option maxHeartbeats 4000000 in
set_option maxRecDepth 100000 in
theorem s_m_fault {X : AX} {d : Nat} {σ ρ : SG} {b : Nat} (hR : MrR (σ.1 89) ρ b) (u : Int) (hu : rg u) : Ev X 0 0 (d + 5) mX11_fault 0 [some (rv 88), some (iv u), none] [] σ (QI (fun r σ' => r = (if 0 ≤ u ∧ u ≤ 2 then ρ.1 (rcN b u) 4 else -2) ∧ Fr [88, 92, 93] σ σ' ∧ KA σ σ')) := by
  obtain ⟨hu1, hu2⟩ := hu
  refine e_iload_n (pc' := 1) dX11_fault_0 rfl rfl ?_
  refine e_cs1i (pc' := 4) dX11_fault_1 rfl pn_11_108 k_11_108 (Nat.le_of_ble_eq_true rfl) rfl rfl ⟨rfl, rfl⟩ ⟨Nat.zero_le _, Nat.zero_le _⟩ (s_m_isRule u ⟨by omega, by omega⟩) ?_
  intro r σ' hr; rw [hr.1, hr.2]; clear hr
  refine e_ifI (pc' := 7) (t := 10) dX11_fault_4 (by decide) rfl ⟨by first | omega | (split <;> omega), by first | omega | (split <;> omega)⟩ (fun (c2_1 : ((if 0 ≤ u ∧ u ≤ 2 then 1 else 0) : Int) ≠ 0) => ?_) (fun (c2_1 : ¬ (((if 0 ≤ u ∧ u ≤ 2 then 1 else 0) : Int) ≠ 0)) => ?_)
  · have c2_1n : 0 ≤ u ∧ u ≤ 2 := Classical.byContradiction (fun hpq_ => absurd (if_neg hpq_ : (if 0 ≤ u ∧ u ≤ 2 then (1 : Int) else 0) = 0) (by have := c2_1; omega))
    obtain ⟨k1, k2, k3⟩ := hR.2 u (by omega) (by omega)
    obtain ⟨nn, hnn, hn2, hch, hu3, hu4, hu5⟩ := k1
    refine e_aload_n (pc' := 11) dX11_fault_10 rfl rfl ?_
    refine e_iload_n (pc' := 12) dX11_fault_11 rfl rfl ?_
    refine e_putI (pc' := 15) dX11_fault_12 rfl f_11_113 h_88 rfl rfl rfl ?_
    refine e_aload_n (pc' := 16) dX11_fault_15 rfl rfl ?_
    refine e_cv0i (pc' := 19) dX11_fault_16 rfl k_11_169 h_88 rfl (Nat.le_of_ble_eq_true rfl) rfl rfl ⟨rfl, rfl⟩ ⟨Nat.zero_le _, Nat.zero_le _⟩ (s_m_readsQ (σ0 := (upI σ 88 3 u)) (σ.2 94) u nn (ρ.1 (rcN b u + 1)) ⟨by omega, by omega⟩ hnn rfl (k2.trans hn2) (fun k a c => ⟨k3 k a (by omega), hch k a (by omega)⟩) (fun i _ _ => rfl)) ?_
    rintro z τ1 ⟨h5, hz, hto, h3, hF1⟩
    refine e_istore_n (pc' := 20) (L' := [some (rv 88), some (iv u), some (iv z)]) dX11_fault_19 rfl (by decide) rfl ?_
    refine e_aload_n (pc' := 21) dX11_fault_20 rfl rfl ?_
    refine e_getI (pc' := 24) (v := ((fnS (ρ.1 (rcN b u + 1)) nn).2.2.2.2.2)) dX11_fault_21 rfl f_11_142 h_88 rfl h5 ?_
    exact e_iret dX11_fault_24 rfl ⟨rfl, Nat.le_refl _⟩ ⟨_, rfl, by rw [if_pos (by omega)]; exact hu4.symm, (fr_I Fr.rf (by decide)).tr hF1.1, ⟨hF1.2.2.1, hF1.2.2.2.1, hF1.2.2.2.2⟩⟩
  · have c2_1n : ¬ (0 ≤ u ∧ u ≤ 2) := fun hpq_ => absurd (if_pos hpq_ : (if 0 ≤ u ∧ u ≤ 2 then (1 : Int) else 0) = 1) (by have := c2_1; omega)
    refine e_bipush (pc' := 9) (z := (-2)) dX11_fault_7 rfl (by decide) ?_
    exact e_iret dX11_fault_9 rfl ⟨rfl, Nat.le_refl _⟩ ⟨_, rfl, by rw [if_neg (by omega)], Fr.rf, KA.rf⟩

set_option maxHeartbeats 4000000 in
set_option maxRecDepth 100000 in
theorem s_m_addedTo {X : AX} {d : Nat} {σ ρ : SG} {b : Nat} (hR : MrR (σ.1 89) ρ b) (hRt : RtI σ) (u x y z : Int) (hu : 0 ≤ u ∧ u ≤ 2) (hx : 0 ≤ x ∧ x ≤ 12) (hy : 0 ≤ y ∧ y ≤ 12) (hz : 0 ≤ z ∧ z ≤ 12) : Ev X 0 0 (d + 6) mX11_addedTo 0 [some (rv 88), some (iv u), some (iv x), some (iv y), some (iv z)] [] σ (QI (fun r σ' => r = addS ρ (rcN b u) x y z ∧ RtI σ' ∧ Fr [88, 92, 93, 94, 95, 96] σ σ' ∧ KA σ σ')) := by
  refine e_aload_n (pc' := 1) dX11_addedTo_0 rfl rfl ?_
  refine e_iconst (pc' := 2) dX11_addedTo_1 rfl ?_
  refine e_putI (pc' := 5) dX11_addedTo_2 rfl f_11_177 h_88 rfl rfl rfl ?_
  have hF0 : Fr [88, 92, 93, 94, 95, 96] σ (upI σ 88 13 0) := fr_I Fr.rf (by decide)
  have hK0 : KA σ (upI σ 88 13 0) := ⟨rfl, rfl, rfl⟩
  have hH0 : HdI (upI σ 88 13 0) 0 st0 := ⟨rfl, (fun k a c => absurd c (by omega)), rfl⟩
  refine e_aload_n (pc' := 6) dX11_addedTo_5 rfl rfl ?_
  refine e_iload_n (pc' := 7) dX11_addedTo_6 rfl rfl ?_
  refine e_cv1v (pc' := 10) dX11_addedTo_7 rfl k_11_190 h_88 rfl (Nat.le_of_ble_eq_true rfl) rfl rfl ⟨rfl, rfl⟩ ⟨Nat.zero_le _, Nat.zero_le _⟩ (s_m_putHand 0 st0 (by decide) hH0 x ⟨by omega, by omega⟩) ?_
  rintro τ1 ⟨hH1, hE1, hJ1⟩
  have hFF1 : Fr [88, 92, 93, 94, 95, 96] σ τ1 := hF0.tr (hE1.mono (by decide))
  have hKK1 : KA σ τ1 := hK0.tr hJ1
  have e96_1 : τ1.2 96 = σ.2 96 := (hE1 96 (by decide)).2
  refine e_aload_n (pc' := 11) dX11_addedTo_10 rfl rfl ?_
  refine e_iload_n (pc' := 12) dX11_addedTo_11 rfl rfl ?_
  refine e_cv1v (pc' := 15) dX11_addedTo_12 rfl k_11_190 h_88 rfl (Nat.le_of_ble_eq_true rfl) rfl rfl ⟨rfl, rfl⟩ ⟨Nat.zero_le _, Nat.zero_le _⟩ (s_m_putHand 1 (seeS st0 x) (by decide) hH1 y ⟨by omega, by omega⟩) ?_
  rintro τ2 ⟨hH2, hE2, hJ2⟩
  have hFF2 : Fr [88, 92, 93, 94, 95, 96] σ τ2 := hFF1.tr (hE2.mono (by decide))
  have hKK2 : KA σ τ2 := hKK1.tr hJ2
  have e96_2 : τ2.2 96 = τ1.2 96 := (hE2 96 (by decide)).2
  refine e_aload_n (pc' := 16) dX11_addedTo_15 rfl rfl ?_
  refine e_iload (pc' := 18) dX11_addedTo_16 rfl rfl ?_
  refine e_cv1v (pc' := 21) dX11_addedTo_18 rfl k_11_190 h_88 rfl (Nat.le_of_ble_eq_true rfl) rfl rfl ⟨rfl, rfl⟩ ⟨Nat.zero_le _, Nat.zero_le _⟩ (s_m_putHand 2 (seeS (seeS st0 x) y) (by decide) hH2 z ⟨by omega, by omega⟩) ?_
  rintro τ3 ⟨hH3, hE3, hJ3⟩
  have hFF3 : Fr [88, 92, 93, 94, 95, 96] σ τ3 := hFF2.tr (hE3.mono (by decide))
  have hKK3 : KA σ τ3 := hKK2.tr hJ3
  have e96_3 : τ3.2 96 = τ2.2 96 := (hE3 96 (by decide)).2
  refine e_aload_n (pc' := 22) dX11_addedTo_21 rfl rfl ?_
  refine e_iload_n (pc' := 23) dX11_addedTo_22 rfl rfl ?_
  refine e_cv1i (pc' := 26) dX11_addedTo_23 rfl k_11_197 h_88 rfl (Nat.le_of_ble_eq_true rfl) rfl rfl ⟨rfl, rfl⟩ ⟨Nat.zero_le _, Nat.zero_le _⟩ (s_m_rule (MrR_cg hR (hFF3 89 (by decide)).1) _ 3 (by decide) hH3 (RtI.fr hRt (by rw [e96_3, e96_2, e96_1])) u hu) ?_
  rintro r τ4 ⟨hr, hR4, hE4, hK4⟩
  exact e_iret dX11_addedTo_26 rfl ⟨rfl, Nat.le_refl _⟩ ⟨_, rfl, hr, hR4, hFF3.tr (hE4.mono (by decide)), hKK3.tr ⟨hK4.2.1, hK4.2.2.1, hK4.2.2.2⟩⟩

theorem addS_sw (ρ : SG) (r : Nat) (x y z : Int) : addS ρ r x y z = addS ρ r x z y := by
  unfold addS
  rw [seeS_comm (seeS st0 x) y z]

set_option maxHeartbeats 4000000 in
set_option maxRecDepth 100000 in
theorem l_m_holds {X : AX} {d : Nat} {σ ρ : SG} {b : Nat} (hR : MrR (σ.1 89) ρ b) (hRt : RtI σ) (u law top a c : Int) (hu : 0 ≤ u ∧ u ≤ 2) (hl : 0 ≤ law ∧ law ≤ 3) (ht : 1 ≤ top ∧ top ≤ 12) (ha : 0 ≤ a ∧ a ≤ top) (hc : 0 ≤ c ∧ c ≤ top) (hl1 : law = 1) : ∀ (k : Nat) (i lk : Int) (τ : SG), 1 ≤ i → (i ≤ a ∨ i = 1) → 14 - i < k → lk = b2i (nmI (fun p => addS ρ (rcN b u) p c (a - p)) (addS ρ (rcN b u) a c 0) i) → RtI τ → Fr [88, 92, 93, 94, 95, 96] σ τ → KA σ τ → Ev X 0 0 (d + 7) mX11_holds 58 [some (rv 88), some (iv u), some (iv law), some (iv top), some (iv a), some (iv c), some (iv (addS ρ (rcN b u) a c 0)), some (iv lk), some (iv i)] [] τ (QI (fun r σ' => r = b2i (hdB ρ (rcN b u) law top a c) ∧ RtI σ' ∧ Fr [88, 92, 93, 94, 95, 96] σ σ' ∧ KA σ σ')) := by
  intro k
  induction k with
  | zero => intros; omega
  | succ k ih =>
  intro i lk τ hi1 hia hik hlk hRt hF hK
  have hads := addS_rg ρ (rcN b u) a c 0
  refine e_iload (pc' := 60) dX11_holds_58 rfl rfl ?_
  refine e_iload (pc' := 62) dX11_holds_60 rfl rfl ?_
  refine e_icmpI (pc' := 65) (t := 102) dX11_holds_62 (by decide) rfl (by first | exact ⟨by omega, by omega⟩ | (have z := b2i_rg (nmI (fun p => addS ρ (rcN b u) p c (a - p)) (addS ρ (rcN b u) a c 0) i); exact ⟨by omega, by omega⟩)) (by first | exact ⟨by omega, by omega⟩ | (have z := b2i_rg (nmI (fun p => addS ρ (rcN b u) p c (a - p)) (addS ρ (rcN b u) a c 0) i); exact ⟨by omega, by omega⟩)) (fun (c2_1 : a ≤ (i : Int)) => ?_) (fun (c2_1 : ¬ (a ≤ (i : Int))) => ?_)
  · refine e_iload (pc' := 104) dX11_holds_102 rfl rfl ?_
    exact e_zret dX11_holds_104 rfl (by have z := b2i_rg (nmI (fun p => addS ρ (rcN b u) p c (a - p)) (addS ρ (rcN b u) a c 0) i); omega) ⟨rfl, Nat.le_refl _⟩ ⟨_, rfl, by unfold hdB; rw [if_neg (by omega), if_pos hl1, hlk]; unfold nmI; rw [show (i - 1).toNat = (a - 1).toNat by omega], hRt, hF, hK⟩
  · refine e_iload (pc' := 67) dX11_holds_65 rfl rfl ?_
    refine e_ifI (pc' := 70) (t := 93) dX11_holds_67 (by decide) rfl (by first | exact ⟨by omega, by omega⟩ | (have z := b2i_rg (nmI (fun p => addS ρ (rcN b u) p c (a - p)) (addS ρ (rcN b u) a c 0) i); exact ⟨by omega, by omega⟩)) (fun (c4_2 : (lk : Int) = 0) => ?_) (fun (c4_2 : ¬ ((lk : Int) = 0)) => ?_)
    · refine e_iconst (pc' := 94) dX11_holds_93 rfl ?_
      refine e_istore (pc' := 96) (L' := [some (rv 88), some (iv u), some (iv law), some (iv top), some (iv a), some (iv c), some (iv (addS ρ (rcN b u) a c 0)), some (iv 0), some (iv i)]) dX11_holds_94 rfl (by decide) rfl ?_
      refine e_iinc (pc' := 99) (L' := [some (rv 88), some (iv u), some (iv law), some (iv top), some (iv a), some (iv c), some (iv (addS ρ (rcN b u) a c 0)), some (iv 0), some (iv (i + 1))]) dX11_holds_96 rfl rfl (by decide) rfl ?_
      refine e_goto (pc' := 58) dX11_holds_99 (by decide) ?_
      refine ih (i + 1) _ τ (by omega) (by omega) (by omega) ?_ hRt hF hK
      rw [nmI_s _ _ hi1]
      first
        | (rw [b2i_0 (x := nmI (fun p => addS ρ (rcN b u) p c (a - p)) (addS ρ (rcN b u) a c 0) i) (by omega)]; rfl)
        | (rw [b2i_1 (x := nmI (fun p => addS ρ (rcN b u) p c (a - p)) (addS ρ (rcN b u) a c 0) i) (by omega), show decide ((fun p => addS ρ (rcN b u) p c (a - p)) i ≤ (addS ρ (rcN b u) a c 0)) = true from decide_eq_true (by show addS ρ (rcN b u) i c (a - i) ≤ _; rw [addS_sw]; omega)]; rfl)
        | (rw [b2i_1 (x := nmI (fun p => addS ρ (rcN b u) p c (a - p)) (addS ρ (rcN b u) a c 0) i) (by omega), show decide ((fun p => addS ρ (rcN b u) p c (a - p)) i ≤ (addS ρ (rcN b u) a c 0)) = false from decide_eq_false (by show ¬ addS ρ (rcN b u) i c (a - i) ≤ _; rw [addS_sw]; omega)]; rfl)
    · refine e_aload_n (pc' := 71) dX11_holds_70 rfl rfl ?_
      refine e_iload_n (pc' := 72) dX11_holds_71 rfl rfl ?_
      refine e_iload (pc' := 74) dX11_holds_72 rfl rfl ?_
      refine e_iload (pc' := 76) dX11_holds_74 rfl rfl ?_
      refine e_iload (pc' := 78) dX11_holds_76 rfl rfl ?_
      refine e_isub (pc' := 79) dX11_holds_78 rfl ?_
      refine e_iload (pc' := 81) dX11_holds_79 rfl rfl ?_
      refine e_cv4i (pc' := 84) dX11_holds_81 rfl k_11_248 h_88 rfl (Nat.le_of_ble_eq_true rfl) rfl rfl ⟨rfl, rfl⟩ ⟨Nat.zero_le _, Nat.zero_le _⟩ (s_m_addedTo (MrR_cg hR (hF 89 (by decide)).1) hRt u i (a - i) c hu ⟨by omega, by omega⟩ ⟨by omega, by omega⟩ ⟨by omega, by omega⟩) ?_
      rintro r2 τ2 ⟨hr2, hRt2, hE2, hJ2⟩
      have hF2 : Fr [88, 92, 93, 94, 95, 96] σ τ2 := hF.tr hE2
      have hK2 : KA σ τ2 := hK.tr hJ2
      rw [hr2]
      have har2 := addS_rg ρ (rcN b u) i (a - i) c
      refine e_iload (pc' := 86) dX11_holds_84 rfl rfl ?_
      refine e_icmpI (pc' := 89) (t := 93) dX11_holds_86 (by decide) rfl (by first | exact ⟨by omega, by omega⟩ | (have z := b2i_rg (nmI (fun p => addS ρ (rcN b u) p c (a - p)) (addS ρ (rcN b u) a c 0) i); exact ⟨by omega, by omega⟩)) (by first | exact ⟨by omega, by omega⟩ | (have z := b2i_rg (nmI (fun p => addS ρ (rcN b u) p c (a - p)) (addS ρ (rcN b u) a c 0) i); exact ⟨by omega, by omega⟩)) (fun (c6_3 : (addS ρ (rcN b u) a c 0) < ((addS ρ (rcN b u) i (a - i) c) : Int)) => ?_) (fun (c6_3 : ¬ ((addS ρ (rcN b u) a c 0) < ((addS ρ (rcN b u) i (a - i) c) : Int))) => ?_)
      · refine e_iconst (pc' := 94) dX11_holds_93 rfl ?_
        refine e_istore (pc' := 96) (L' := [some (rv 88), some (iv u), some (iv law), some (iv top), some (iv a), some (iv c), some (iv (addS ρ (rcN b u) a c 0)), some (iv 0), some (iv i)]) dX11_holds_94 rfl (by decide) rfl ?_
        refine e_iinc (pc' := 99) (L' := [some (rv 88), some (iv u), some (iv law), some (iv top), some (iv a), some (iv c), some (iv (addS ρ (rcN b u) a c 0)), some (iv 0), some (iv (i + 1))]) dX11_holds_96 rfl rfl (by decide) rfl ?_
        refine e_goto (pc' := 58) dX11_holds_99 (by decide) ?_
        refine ih (i + 1) _ τ2 (by omega) (by omega) (by omega) ?_ hRt2 hF2 hK2
        rw [nmI_s _ _ hi1]
        first
          | (rw [b2i_0 (x := nmI (fun p => addS ρ (rcN b u) p c (a - p)) (addS ρ (rcN b u) a c 0) i) (by omega)]; rfl)
          | (rw [b2i_1 (x := nmI (fun p => addS ρ (rcN b u) p c (a - p)) (addS ρ (rcN b u) a c 0) i) (by omega), show decide ((fun p => addS ρ (rcN b u) p c (a - p)) i ≤ (addS ρ (rcN b u) a c 0)) = true from decide_eq_true (by show addS ρ (rcN b u) i c (a - i) ≤ _; rw [addS_sw]; omega)]; rfl)
          | (rw [b2i_1 (x := nmI (fun p => addS ρ (rcN b u) p c (a - p)) (addS ρ (rcN b u) a c 0) i) (by omega), show decide ((fun p => addS ρ (rcN b u) p c (a - p)) i ≤ (addS ρ (rcN b u) a c 0)) = false from decide_eq_false (by show ¬ addS ρ (rcN b u) i c (a - i) ≤ _; rw [addS_sw]; omega)]; rfl)
      · refine e_iconst (pc' := 90) dX11_holds_89 rfl ?_
        refine e_goto (pc' := 94) dX11_holds_90 (by decide) ?_
        refine e_istore (pc' := 96) (L' := [some (rv 88), some (iv u), some (iv law), some (iv top), some (iv a), some (iv c), some (iv (addS ρ (rcN b u) a c 0)), some (iv 1), some (iv i)]) dX11_holds_94 rfl (by decide) rfl ?_
        refine e_iinc (pc' := 99) (L' := [some (rv 88), some (iv u), some (iv law), some (iv top), some (iv a), some (iv c), some (iv (addS ρ (rcN b u) a c 0)), some (iv 1), some (iv (i + 1))]) dX11_holds_96 rfl rfl (by decide) rfl ?_
        refine e_goto (pc' := 58) dX11_holds_99 (by decide) ?_
        refine ih (i + 1) _ τ2 (by omega) (by omega) (by omega) ?_ hRt2 hF2 hK2
        rw [nmI_s _ _ hi1]
        first
          | (rw [b2i_0 (x := nmI (fun p => addS ρ (rcN b u) p c (a - p)) (addS ρ (rcN b u) a c 0) i) (by omega)]; rfl)
          | (rw [b2i_1 (x := nmI (fun p => addS ρ (rcN b u) p c (a - p)) (addS ρ (rcN b u) a c 0) i) (by omega), show decide ((fun p => addS ρ (rcN b u) p c (a - p)) i ≤ (addS ρ (rcN b u) a c 0)) = true from decide_eq_true (by show addS ρ (rcN b u) i c (a - i) ≤ _; rw [addS_sw]; omega)]; rfl)
          | (rw [b2i_1 (x := nmI (fun p => addS ρ (rcN b u) p c (a - p)) (addS ρ (rcN b u) a c 0) i) (by omega), show decide ((fun p => addS ρ (rcN b u) p c (a - p)) i ≤ (addS ρ (rcN b u) a c 0)) = false from decide_eq_false (by show ¬ addS ρ (rcN b u) i c (a - i) ≤ _; rw [addS_sw]; omega)]; rfl)

set_option maxHeartbeats 4000000 in
set_option maxRecDepth 100000 in
theorem s_m_holds {X : AX} {d : Nat} {σ ρ : SG} {b : Nat} (hR : MrR (σ.1 89) ρ b) (hRt : RtI σ) (u law top a c : Int) (hu : 0 ≤ u ∧ u ≤ 2) (hl : 0 ≤ law ∧ law ≤ 3) (ht : 1 ≤ top ∧ top ≤ 12) (ha : 0 ≤ a ∧ a ≤ top) (hc : 0 ≤ c ∧ c ≤ top) : Ev X 0 0 (d + 7) mX11_holds 0 [some (rv 88), some (iv u), some (iv law), some (iv top), some (iv a), some (iv c), none, none, none] [] σ (QI (fun r σ' => r = b2i (hdB ρ (rcN b u) law top a c) ∧ RtI σ' ∧ Fr [88, 92, 93, 94, 95, 96] σ σ' ∧ KA σ σ')) := by
  refine e_aload_n (pc' := 1) dX11_holds_0 rfl rfl ?_
  refine e_iload_n (pc' := 2) dX11_holds_1 rfl rfl ?_
  refine e_iload (pc' := 4) dX11_holds_2 rfl rfl ?_
  refine e_iload (pc' := 6) dX11_holds_4 rfl rfl ?_
  refine e_iconst (pc' := 7) dX11_holds_6 rfl ?_
  refine e_cv4i (pc' := 10) dX11_holds_7 rfl k_11_248 h_88 rfl (Nat.le_of_ble_eq_true rfl) rfl rfl ⟨rfl, rfl⟩ ⟨Nat.zero_le _, Nat.zero_le _⟩ (s_m_addedTo hR hRt u a c 0 hu ⟨by omega, by omega⟩ ⟨by omega, by omega⟩ ⟨by omega, by omega⟩) ?_
  rintro r1 τ1 ⟨hr1, hRt1, hE1, hJ1⟩
  have hF1 : Fr [88, 92, 93, 94, 95, 96] σ τ1 := hE1
  have hK1 : KA σ τ1 := hJ1
  rw [hr1]
  have har1 := addS_rg ρ (rcN b u) a c 0
  refine e_istore (pc' := 12) (L' := [some (rv 88), some (iv u), some (iv law), some (iv top), some (iv a), some (iv c), some (iv (addS ρ (rcN b u) a c 0)), none, none]) dX11_holds_10 rfl (by decide) rfl ?_
  refine e_iload_n (pc' := 13) dX11_holds_12 rfl rfl ?_
  refine e_ifI (pc' := 16) (t := 47) dX11_holds_13 (by decide) rfl ⟨by omega, by omega⟩ (fun (c2_1 : (law : Int) ≠ 0) => ?_) (fun (c2_1 : ¬ ((law : Int) ≠ 0)) => ?_)
  · refine e_iload_n (pc' := 48) dX11_holds_47 rfl rfl ?_
    refine e_iconst (pc' := 49) dX11_holds_48 rfl ?_
    refine e_icmpI (pc' := 52) (t := 105) dX11_holds_49 (by decide) rfl ⟨by omega, by omega⟩ ⟨by omega, by omega⟩ (fun (c4_2 : (law : Int) ≠ 1) => ?_) (fun (c4_2 : ¬ ((law : Int) ≠ 1)) => ?_)
    · refine e_iload_n (pc' := 106) dX11_holds_105 rfl rfl ?_
      refine e_iconst (pc' := 107) dX11_holds_106 rfl ?_
      refine e_icmpI (pc' := 110) (t := 128) dX11_holds_107 (by decide) rfl ⟨by omega, by omega⟩ ⟨by omega, by omega⟩ (fun (c6_3 : (law : Int) ≠ 2) => ?_) (fun (c6_3 : ¬ ((law : Int) ≠ 2)) => ?_)
      · refine e_iload (pc' := 130) dX11_holds_128 rfl rfl ?_
        refine e_ifI (pc' := 133) (t := 143) dX11_holds_130 (by decide) rfl ⟨by omega, by omega⟩ (fun (c8_4 : (a : Int) = 0) => ?_) (fun (c8_4 : ¬ ((a : Int) = 0)) => ?_)
        · refine e_iconst (pc' := 144) dX11_holds_143 rfl ?_
          refine e_goto (pc' := 148) dX11_holds_144 (by decide) ?_
          exact e_zret dX11_holds_148 rfl (by decide) ⟨rfl, Nat.le_refl _⟩ ⟨_, rfl, by unfold hdB; first | (rw [if_pos (by omega)]; first | (rw [decide_eq_true (by omega)]; rfl) | (rw [decide_eq_false (by omega)]; rfl)) | (rw [if_neg (by omega), if_neg (by omega), if_pos (by omega)]; first | (rw [decide_eq_true (by omega)]; rfl) | (rw [decide_eq_false (by omega)]; rfl)) | (rw [if_neg (by omega), if_neg (by omega), if_neg (by omega)]; first | (rw [decide_eq_true (by omega)]; rfl) | (rw [decide_eq_false (by omega)]; rfl)), hRt1, hF1, hK1⟩
        · refine e_iload (pc' := 135) dX11_holds_133 rfl rfl ?_
          refine e_ifI (pc' := 138) (t := 143) dX11_holds_135 (by decide) rfl ⟨by omega, by omega⟩ (fun (c10_5 : (c : Int) = 0) => ?_) (fun (c10_5 : ¬ ((c : Int) = 0)) => ?_)
          · refine e_iconst (pc' := 144) dX11_holds_143 rfl ?_
            refine e_goto (pc' := 148) dX11_holds_144 (by decide) ?_
            exact e_zret dX11_holds_148 rfl (by decide) ⟨rfl, Nat.le_refl _⟩ ⟨_, rfl, by unfold hdB; first | (rw [if_pos (by omega)]; first | (rw [decide_eq_true (by omega)]; rfl) | (rw [decide_eq_false (by omega)]; rfl)) | (rw [if_neg (by omega), if_neg (by omega), if_pos (by omega)]; first | (rw [decide_eq_true (by omega)]; rfl) | (rw [decide_eq_false (by omega)]; rfl)) | (rw [if_neg (by omega), if_neg (by omega), if_neg (by omega)]; first | (rw [decide_eq_true (by omega)]; rfl) | (rw [decide_eq_false (by omega)]; rfl)), hRt1, hF1, hK1⟩
          · refine e_iload (pc' := 140) dX11_holds_138 rfl rfl ?_
            refine e_ifI (pc' := 143) (t := 147) dX11_holds_140 (by decide) rfl ⟨by omega, by omega⟩ (fun (c12_6 : ((addS ρ (rcN b u) a c 0) : Int) ≤ 0) => ?_) (fun (c12_6 : ¬ (((addS ρ (rcN b u) a c 0) : Int) ≤ 0)) => ?_)
            · refine e_iconst (pc' := 148) dX11_holds_147 rfl ?_
              exact e_zret dX11_holds_148 rfl (by decide) ⟨rfl, Nat.le_refl _⟩ ⟨_, rfl, by unfold hdB; first | (rw [if_pos (by omega)]; first | (rw [decide_eq_true (by omega)]; rfl) | (rw [decide_eq_false (by omega)]; rfl)) | (rw [if_neg (by omega), if_neg (by omega), if_pos (by omega)]; first | (rw [decide_eq_true (by omega)]; rfl) | (rw [decide_eq_false (by omega)]; rfl)) | (rw [if_neg (by omega), if_neg (by omega), if_neg (by omega)]; first | (rw [decide_eq_true (by omega)]; rfl) | (rw [decide_eq_false (by omega)]; rfl)), hRt1, hF1, hK1⟩
            · refine e_iconst (pc' := 144) dX11_holds_143 rfl ?_
              refine e_goto (pc' := 148) dX11_holds_144 (by decide) ?_
              exact e_zret dX11_holds_148 rfl (by decide) ⟨rfl, Nat.le_refl _⟩ ⟨_, rfl, by unfold hdB; first | (rw [if_pos (by omega)]; first | (rw [decide_eq_true (by omega)]; rfl) | (rw [decide_eq_false (by omega)]; rfl)) | (rw [if_neg (by omega), if_neg (by omega), if_pos (by omega)]; first | (rw [decide_eq_true (by omega)]; rfl) | (rw [decide_eq_false (by omega)]; rfl)) | (rw [if_neg (by omega), if_neg (by omega), if_neg (by omega)]; first | (rw [decide_eq_true (by omega)]; rfl) | (rw [decide_eq_false (by omega)]; rfl)), hRt1, hF1, hK1⟩
      · refine e_iload (pc' := 112) dX11_holds_110 rfl rfl ?_
        refine e_iload (pc' := 114) dX11_holds_112 rfl rfl ?_
        refine e_iload (pc' := 116) dX11_holds_114 rfl rfl ?_
        refine e_iadd (pc' := 117) dX11_holds_116 rfl ?_
        refine e_icmpI (pc' := 120) (t := 124) dX11_holds_117 (by decide) rfl ⟨by omega, by omega⟩ ⟨by omega, by omega⟩ (fun (c8_4 : (a + c) < ((addS ρ (rcN b u) a c 0) : Int)) => ?_) (fun (c8_4 : ¬ ((a + c) < ((addS ρ (rcN b u) a c 0) : Int))) => ?_)
        · refine e_iconst (pc' := 125) dX11_holds_124 rfl ?_
          refine e_goto (pc' := 148) dX11_holds_125 (by decide) ?_
          exact e_zret dX11_holds_148 rfl (by decide) ⟨rfl, Nat.le_refl _⟩ ⟨_, rfl, by unfold hdB; first | (rw [if_pos (by omega)]; first | (rw [decide_eq_true (by omega)]; rfl) | (rw [decide_eq_false (by omega)]; rfl)) | (rw [if_neg (by omega), if_neg (by omega), if_pos (by omega)]; first | (rw [decide_eq_true (by omega)]; rfl) | (rw [decide_eq_false (by omega)]; rfl)) | (rw [if_neg (by omega), if_neg (by omega), if_neg (by omega)]; first | (rw [decide_eq_true (by omega)]; rfl) | (rw [decide_eq_false (by omega)]; rfl)), hRt1, hF1, hK1⟩
        · refine e_iconst (pc' := 121) dX11_holds_120 rfl ?_
          refine e_goto (pc' := 148) dX11_holds_121 (by decide) ?_
          exact e_zret dX11_holds_148 rfl (by decide) ⟨rfl, Nat.le_refl _⟩ ⟨_, rfl, by unfold hdB; first | (rw [if_pos (by omega)]; first | (rw [decide_eq_true (by omega)]; rfl) | (rw [decide_eq_false (by omega)]; rfl)) | (rw [if_neg (by omega), if_neg (by omega), if_pos (by omega)]; first | (rw [decide_eq_true (by omega)]; rfl) | (rw [decide_eq_false (by omega)]; rfl)) | (rw [if_neg (by omega), if_neg (by omega), if_neg (by omega)]; first | (rw [decide_eq_true (by omega)]; rfl) | (rw [decide_eq_false (by omega)]; rfl)), hRt1, hF1, hK1⟩
    · refine e_iconst (pc' := 53) dX11_holds_52 rfl ?_
      refine e_istore (pc' := 55) (L' := [some (rv 88), some (iv u), some (iv law), some (iv top), some (iv a), some (iv c), some (iv (addS ρ (rcN b u) a c 0)), some (iv 1), none]) dX11_holds_53 rfl (by decide) rfl ?_
      refine e_iconst (pc' := 56) dX11_holds_55 rfl ?_
      refine e_istore (pc' := 58) (L' := [some (rv 88), some (iv u), some (iv law), some (iv top), some (iv a), some (iv c), some (iv (addS ρ (rcN b u) a c 0)), some (iv 1), some (iv 1)]) dX11_holds_56 rfl (by decide) rfl ?_
      exact l_m_holds (σ := σ) hR hRt u law top a c hu hl ht ha hc (by omega) 14 1 1 τ1 (by decide) (by omega) (by decide) rfl hRt1 hF1 hK1
  · refine e_iload (pc' := 18) dX11_holds_16 rfl rfl ?_
    refine e_iload_n (pc' := 19) dX11_holds_18 rfl rfl ?_
    refine e_icmpI (pc' := 22) (t := 41) dX11_holds_19 (by decide) rfl ⟨by omega, by omega⟩ ⟨by omega, by omega⟩ (fun (c4_2 : (a : Int) = top) => ?_) (fun (c4_2 : ¬ ((a : Int) = top)) => ?_)
    · refine e_iconst (pc' := 42) dX11_holds_41 rfl ?_
      refine e_goto (pc' := 46) dX11_holds_42 (by decide) ?_
      exact e_zret dX11_holds_46 rfl (by decide) ⟨rfl, Nat.le_refl _⟩ ⟨_, rfl, by unfold hdB; first | (rw [if_pos (by omega)]; first | (rw [decide_eq_true (by omega)]; rfl) | (rw [decide_eq_false (by omega)]; rfl)) | (rw [if_neg (by omega), if_neg (by omega), if_pos (by omega)]; first | (rw [decide_eq_true (by omega)]; rfl) | (rw [decide_eq_false (by omega)]; rfl)) | (rw [if_neg (by omega), if_neg (by omega), if_neg (by omega)]; first | (rw [decide_eq_true (by omega)]; rfl) | (rw [decide_eq_false (by omega)]; rfl)), hRt1, hF1, hK1⟩
    · refine e_aload_n (pc' := 23) dX11_holds_22 rfl rfl ?_
      refine e_iload_n (pc' := 24) dX11_holds_23 rfl rfl ?_
      refine e_iload (pc' := 26) dX11_holds_24 rfl rfl ?_
      refine e_iconst (pc' := 27) dX11_holds_26 rfl ?_
      refine e_iadd (pc' := 28) dX11_holds_27 rfl ?_
      refine e_iload (pc' := 30) dX11_holds_28 rfl rfl ?_
      refine e_iconst (pc' := 31) dX11_holds_30 rfl ?_
      refine e_cv4i (pc' := 34) dX11_holds_31 rfl k_11_248 h_88 rfl (Nat.le_of_ble_eq_true rfl) rfl rfl ⟨rfl, rfl⟩ ⟨Nat.zero_le _, Nat.zero_le _⟩ (s_m_addedTo (MrR_cg hR (hF1 89 (by decide)).1) hRt1 u (a + 1) c 0 hu ⟨by omega, by omega⟩ ⟨by omega, by omega⟩ ⟨by omega, by omega⟩) ?_
      rintro r2 τ2 ⟨hr2, hRt2, hE2, hJ2⟩
      have hF2 : Fr [88, 92, 93, 94, 95, 96] σ τ2 := hF1.tr hE2
      have hK2 : KA σ τ2 := hK1.tr hJ2
      rw [hr2]
      have har2 := addS_rg ρ (rcN b u) (a + 1) c 0
      refine e_iconst (pc' := 35) dX11_holds_34 rfl ?_
      refine e_iadd (pc' := 36) dX11_holds_35 rfl ?_
      refine e_iload (pc' := 38) dX11_holds_36 rfl rfl ?_
      refine e_icmpI (pc' := 41) (t := 45) dX11_holds_38 (by decide) rfl ⟨by omega, by omega⟩ ⟨by omega, by omega⟩ (fun (c6_3 : (((addS ρ (rcN b u) (a + 1) c 0) + 1) : Int) < (addS ρ (rcN b u) a c 0)) => ?_) (fun (c6_3 : ¬ ((((addS ρ (rcN b u) (a + 1) c 0) + 1) : Int) < (addS ρ (rcN b u) a c 0))) => ?_)
      · refine e_iconst (pc' := 46) dX11_holds_45 rfl ?_
        exact e_zret dX11_holds_46 rfl (by decide) ⟨rfl, Nat.le_refl _⟩ ⟨_, rfl, by unfold hdB; first | (rw [if_pos (by omega)]; first | (rw [decide_eq_true (by omega)]; rfl) | (rw [decide_eq_false (by omega)]; rfl)) | (rw [if_neg (by omega), if_neg (by omega), if_pos (by omega)]; first | (rw [decide_eq_true (by omega)]; rfl) | (rw [decide_eq_false (by omega)]; rfl)) | (rw [if_neg (by omega), if_neg (by omega), if_neg (by omega)]; first | (rw [decide_eq_true (by omega)]; rfl) | (rw [decide_eq_false (by omega)]; rfl)), hRt2, hF2, hK2⟩
      · refine e_iconst (pc' := 42) dX11_holds_41 rfl ?_
        refine e_goto (pc' := 46) dX11_holds_42 (by decide) ?_
        exact e_zret dX11_holds_46 rfl (by decide) ⟨rfl, Nat.le_refl _⟩ ⟨_, rfl, by unfold hdB; first | (rw [if_pos (by omega)]; first | (rw [decide_eq_true (by omega)]; rfl) | (rw [decide_eq_false (by omega)]; rfl)) | (rw [if_neg (by omega), if_neg (by omega), if_pos (by omega)]; first | (rw [decide_eq_true (by omega)]; rfl) | (rw [decide_eq_false (by omega)]; rfl)) | (rw [if_neg (by omega), if_neg (by omega), if_neg (by omega)]; first | (rw [decide_eq_true (by omega)]; rfl) | (rw [decide_eq_false (by omega)]; rfl)), hRt2, hF2, hK2⟩

set_option maxHeartbeats 4000000 in
set_option maxRecDepth 100000 in
theorem l_m_brB {X : AX} {d : Nat} {σ ρ : SG} {b : Nat} (hR : MrR (σ.1 89) ρ b) (u law top : Int) (hu : 0 ≤ u ∧ u ≤ 2) (hl : 0 ≤ law ∧ law ≤ 3) (ht : 1 ≤ top ∧ top ≤ 12) (R0 a : Int) (ha : 0 ≤ a ∧ a ≤ top) (hR0 : 0 ≤ brB (fun a c => hdB ρ (rcN b u) law top a c) a (top + 1).toNat 0 → R0 = brB (fun a c => hdB ρ (rcN b u) law top a c) a (top + 1).toNat 0) (hKc : ∀ (τ : SG) (y5 : Option AV), brB (fun a c => hdB ρ (rcN b u) law top a c) a (top + 1).toNat 0 = -1 → RtI τ → Fr [88, 92, 93, 94, 95, 96] σ τ → KA σ τ → Ev X 0 0 (d + 8) mX11_breach 81 [some (rv 88), some (iv u), some (iv law), some (iv top), some (iv a), y5] [] τ (QI (fun r σ' => r = R0 ∧ RtI σ' ∧ Fr [88, 92, 93, 94, 95, 96] σ σ' ∧ KA σ σ'))) : ∀ (n : Nat) (c : Int) (τ : SG), 0 ≤ c → c + n = top + 1 → brB (fun a c => hdB ρ (rcN b u) law top a c) a (top + 1).toNat 0 = brB (fun a c => hdB ρ (rcN b u) law top a c) a n c → RtI τ → Fr [88, 92, 93, 94, 95, 96] σ τ → KA σ τ → Ev X 0 0 (d + 8) mX11_breach 46 [some (rv 88), some (iv u), some (iv law), some (iv top), some (iv a), some (iv c)] [] τ (QI (fun r σ' => r = R0 ∧ RtI σ' ∧ Fr [88, 92, 93, 94, 95, 96] σ σ' ∧ KA σ σ')) := by
  intro n
  induction n using Nat.strongRecOn with
  | ind n ih =>
  intro c τ hc0 hn hbr hRt hF hK
  refine e_iload (pc' := 48) dX11_breach_46 rfl rfl ?_
  refine e_iload_n (pc' := 49) dX11_breach_48 rfl rfl ?_
  refine e_icmpI (pc' := 52) (t := 81) dX11_breach_49 (by decide) rfl ⟨by omega, by omega⟩ ⟨by omega, by omega⟩ (fun (c2_1 : top < (c : Int)) => ?_) (fun (c2_1 : ¬ (top < (c : Int))) => ?_)
  · exact hKc τ _ (by rw [hbr, show n = 0 by omega]; rfl) hRt hF hK
  · refine e_aload_n (pc' := 53) dX11_breach_52 rfl rfl ?_
    refine e_iload_n (pc' := 54) dX11_breach_53 rfl rfl ?_
    refine e_iload_n (pc' := 55) dX11_breach_54 rfl rfl ?_
    refine e_iload_n (pc' := 56) dX11_breach_55 rfl rfl ?_
    refine e_iload (pc' := 58) dX11_breach_56 rfl rfl ?_
    refine e_iload (pc' := 60) dX11_breach_58 rfl rfl ?_
    refine e_cv5i (pc' := 63) dX11_breach_60 rfl k_11_252 h_88 rfl (Nat.le_of_ble_eq_true rfl) rfl rfl ⟨rfl, rfl⟩ ⟨Nat.zero_le _, Nat.zero_le _⟩ (s_m_holds (MrR_cg hR (hF 89 (by decide)).1) hRt u law top a c hu hl ht ⟨by omega, by omega⟩ ⟨by omega, by omega⟩) ?_
    rintro z τ2 ⟨hz, hRt2, hE2, hJ2⟩
    have hF2 : Fr [88, 92, 93, 94, 95, 96] σ τ2 := hF.tr hE2
    have hK2 : KA σ τ2 := hK.tr hJ2
    rw [hz]
    have hzr := b2i_rg (hdB ρ (rcN b u) law top a c)
    refine e_ifI (pc' := 66) (t := 75) dX11_breach_63 (by decide) rfl ⟨by omega, by omega⟩ (fun (c4_2 : ((b2i (hdB ρ (rcN b u) law top a c)) : Int) ≠ 0) => ?_) (fun (c4_2 : ¬ (((b2i (hdB ρ (rcN b u) law top a c)) : Int) ≠ 0)) => ?_)
    · have hdq : hdB ρ (rcN b u) law top a c = true := b2i_1 c4_2
      refine e_iinc (pc' := 78) (L' := [some (rv 88), some (iv u), some (iv law), some (iv top), some (iv a), some (iv (c + 1))]) dX11_breach_75 rfl rfl (by decide) rfl ?_
      refine e_goto (pc' := 46) dX11_breach_78 (by decide) ?_
      match n, hn, hbr with
      | 0, hn, hbr => omega
      | n + 1, hn, hbr =>
        have e : brB (fun a c => hdB ρ (rcN b u) law top a c) a (n + 1) c = brB (fun a c => hdB ρ (rcN b u) law top a c) a n (c + 1) := if_pos hdq
        exact ih n (by omega) (c + 1) τ2 (by omega) (by omega) (hbr.trans e) hRt2 hF2 hK2
    · have hdq : hdB ρ (rcN b u) law top a c = false := b2i_0 (Classical.byContradiction c4_2)
      refine e_bipush (pc' := 68) (z := 100) dX11_breach_66 rfl (by decide) ?_
      refine e_iload (pc' := 70) dX11_breach_68 rfl rfl ?_
      refine e_imul (pc' := 71) dX11_breach_70 rfl ?_
      refine e_iload (pc' := 73) dX11_breach_71 rfl rfl ?_
      refine e_iadd (pc' := 74) dX11_breach_73 rfl ?_
      exact e_iret dX11_breach_74 rfl ⟨rfl, Nat.le_refl _⟩ (by
    match n, hn, hbr with
    | 0, hn, hbr => omega
    | n + 1, hn, hbr =>
      have e : brB (fun a c => hdB ρ (rcN b u) law top a c) a (n + 1) c = 100 * a + c := if_neg (by show ¬ hdB ρ (rcN b u) law top a c = true; rw [hdq]; decide)
      rw [e] at hbr
      have e2 := hR0 (by omega)
      exact ⟨_, rfl, by omega, hRt2, hF2, hK2⟩)

set_option maxHeartbeats 4000000 in
set_option maxRecDepth 100000 in
theorem l_m_brA {X : AX} {d : Nat} {σ ρ : SG} {b : Nat} (hR : MrR (σ.1 89) ρ b) (u law top : Int) (hu : 0 ≤ u ∧ u ≤ 2) (hl : 0 ≤ law ∧ law ≤ 3) (ht : 1 ≤ top ∧ top ≤ 12) : ∀ (n : Nat) (a : Int) (τ : SG) (x5 : Option AV), 0 ≤ a → a + n = top + 1 → brA (fun a c => hdB ρ (rcN b u) law top a c) top (top + 1).toNat 0 = brA (fun a c => hdB ρ (rcN b u) law top a c) top n a → RtI τ → Fr [88, 92, 93, 94, 95, 96] σ τ → KA σ τ → Ev X 0 0 (d + 8) mX11_breach 37 [some (rv 88), some (iv u), some (iv law), some (iv top), some (iv a), x5] [] τ (QI (fun r σ' => r = brA (fun a c => hdB ρ (rcN b u) law top a c) top (top + 1).toNat 0 ∧ RtI σ' ∧ Fr [88, 92, 93, 94, 95, 96] σ σ' ∧ KA σ σ')) := by
  intro n
  induction n using Nat.strongRecOn with
  | ind n ih =>
  intro a τ x5 ha0 hn hbr hRt hF hK
  refine e_iload (pc' := 39) dX11_breach_37 rfl rfl ?_
  refine e_iload_n (pc' := 40) dX11_breach_39 rfl rfl ?_
  refine e_icmpI (pc' := 43) (t := 87) dX11_breach_40 (by decide) rfl ⟨by omega, by omega⟩ ⟨by omega, by omega⟩ (fun (c2_1 : top < (a : Int)) => ?_) (fun (c2_1 : ¬ (top < (a : Int))) => ?_)
  · refine e_iconst (pc' := 88) dX11_breach_87 rfl ?_
    exact e_iret dX11_breach_88 rfl ⟨rfl, Nat.le_refl _⟩ ⟨_, rfl, by rw [hbr, show n = 0 by omega]; rfl, hRt, hF, hK⟩
  · refine e_iconst (pc' := 44) dX11_breach_43 rfl ?_
    refine e_istore (pc' := 46) (L' := [some (rv 88), some (iv u), some (iv law), some (iv top), some (iv a), some (iv 0)]) dX11_breach_44 rfl (by decide) rfl ?_
    match n, hn, hbr with
    | 0, hn, hbr => omega
    | n + 1, hn, hbr =>
      refine l_m_brB hR u law top hu hl ht _ a ⟨by omega, by omega⟩ (fun q => hbr.trans (if_neg (by omega))) (fun τ' y5 hm1 hRt' hF' hK' => ?_) (top + 1).toNat 0 τ (by decide) (by omega) rfl hRt hF hK
      refine e_iinc (pc' := 84) (L' := [some (rv 88), some (iv u), some (iv law), some (iv top), some (iv (a + 1)), y5]) dX11_breach_81 rfl rfl (by decide) rfl ?_
      refine e_goto (pc' := 37) dX11_breach_84 (by decide) ?_
      exact ih n (by omega) (a + 1) τ' _ (by omega) (by omega) (hbr.trans (if_pos hm1)) hRt' hF' hK'

set_option maxHeartbeats 4000000 in
set_option maxRecDepth 100000 in
theorem s_m_breach {X : AX} {d : Nat} {σ ρ : SG} {b : Nat} (hR : MrR (σ.1 89) ρ b) (hRt : RtI σ) (u law top : Int) (hu : rg u) (hl : rg law) (ht : rg top) : Ev X 0 0 (d + 8) mX11_breach 0 [some (rv 88), some (iv u), some (iv law), some (iv top), none, none] [] σ (QI (fun v σ' => v = (if (0 ≤ u ∧ u ≤ 2) ∧ (0 ≤ law ∧ law ≤ 3) ∧ (1 ≤ top ∧ top ≤ 12) then brA (fun a c => hdB ρ (rcN b u) law top a c) top (top + 1).toNat 0 else -2) ∧ RtI σ' ∧ Fr [88, 92, 93, 94, 95, 96] σ σ' ∧ KA σ σ')) := by
  obtain ⟨hu1, hu2⟩ := hu
  obtain ⟨hl1, hl2⟩ := hl
  obtain ⟨ht1, ht2⟩ := ht
  refine e_iload_n (pc' := 1) dX11_breach_0 rfl rfl ?_
  refine e_cs1i (pc' := 4) dX11_breach_1 rfl pn_11_108 k_11_108 (Nat.le_of_ble_eq_true rfl) rfl rfl ⟨rfl, rfl⟩ ⟨Nat.zero_le _, Nat.zero_le _⟩ (s_m_isRule u ⟨by omega, by omega⟩) ?_
  intro r σ' hr; rw [hr.1, hr.2]; clear hr
  refine e_ifI (pc' := 7) (t := 31) dX11_breach_4 (by decide) rfl ⟨by first | omega | (split <;> omega), by first | omega | (split <;> omega)⟩ (fun (c2_1 : ((if 0 ≤ u ∧ u ≤ 2 then 1 else 0) : Int) = 0) => ?_) (fun (c2_1 : ¬ (((if 0 ≤ u ∧ u ≤ 2 then 1 else 0) : Int) = 0)) => ?_)
  · have c2_1n : ¬ (0 ≤ u ∧ u ≤ 2) := fun hpq_ => absurd (if_pos hpq_ : (if 0 ≤ u ∧ u ≤ 2 then (1 : Int) else 0) = 1) (by have := c2_1; omega)
    refine e_bipush (pc' := 33) (z := (-2)) dX11_breach_31 rfl (by decide) ?_
    exact e_iret dX11_breach_33 rfl ⟨rfl, Nat.le_refl _⟩ ⟨_, rfl, by rw [if_neg (by omega)], hRt, Fr.rf, KA.rf⟩
  · have c2_1n : 0 ≤ u ∧ u ≤ 2 := Classical.byContradiction (fun hpq_ => absurd (if_neg hpq_ : (if 0 ≤ u ∧ u ≤ 2 then (1 : Int) else 0) = 0) (by have := c2_1; omega))
    refine e_iload_n (pc' := 8) dX11_breach_7 rfl rfl ?_
    refine e_i2l (pc' := 9) dX11_breach_8 rfl ⟨by first | omega | (split <;> omega), by first | omega | (split <;> omega)⟩ ?_
    refine e_lconst (pc' := 10) (z := 0) dX11_breach_9 rfl rfl ?_
    refine e_ldc2 (pc' := 13) dX11_breach_10 rfl c_11_102 ?_
    refine e_cs3i (pc' := 16) dX11_breach_13 rfl pn_11_80 k_11_80 (Nat.le_of_ble_eq_true rfl) rfl rfl ⟨rfl, rfl⟩ ⟨Nat.zero_le _, Nat.zero_le _⟩ (s_m_in law 0 3 (i64_to ⟨by omega, by omega⟩) (by decide) (by decide)) ?_
    intro r σ' hr; rw [hr.1, hr.2]; clear hr
    refine e_ifI (pc' := 19) (t := 31) dX11_breach_16 (by decide) rfl ⟨by first | omega | (split <;> omega), by first | omega | (split <;> omega)⟩ (fun (c4_2 : ((if 0 ≤ law ∧ law ≤ 3 then 1 else 0) : Int) = 0) => ?_) (fun (c4_2 : ¬ (((if 0 ≤ law ∧ law ≤ 3 then 1 else 0) : Int) = 0)) => ?_)
    · have c4_2n : ¬ (0 ≤ law ∧ law ≤ 3) := fun hpq_ => absurd (if_pos hpq_ : (if 0 ≤ law ∧ law ≤ 3 then (1 : Int) else 0) = 1) (by have := c4_2; omega)
      refine e_bipush (pc' := 33) (z := (-2)) dX11_breach_31 rfl (by decide) ?_
      exact e_iret dX11_breach_33 rfl ⟨rfl, Nat.le_refl _⟩ ⟨_, rfl, by rw [if_neg (by omega)], hRt, Fr.rf, KA.rf⟩
    · have c4_2n : 0 ≤ law ∧ law ≤ 3 := Classical.byContradiction (fun hpq_ => absurd (if_neg hpq_ : (if 0 ≤ law ∧ law ≤ 3 then (1 : Int) else 0) = 0) (by have := c4_2; omega))
      refine e_iload_n (pc' := 20) dX11_breach_19 rfl rfl ?_
      refine e_i2l (pc' := 21) dX11_breach_20 rfl ⟨by first | omega | (split <;> omega), by first | omega | (split <;> omega)⟩ ?_
      refine e_lconst (pc' := 22) (z := 1) dX11_breach_21 rfl rfl ?_
      refine e_ldc2 (pc' := 25) dX11_breach_22 rfl c_11_87 ?_
      refine e_cs3i (pc' := 28) dX11_breach_25 rfl pn_11_80 k_11_80 (Nat.le_of_ble_eq_true rfl) rfl rfl ⟨rfl, rfl⟩ ⟨Nat.zero_le _, Nat.zero_le _⟩ (s_m_in top 1 12 (i64_to ⟨by omega, by omega⟩) (by decide) (by decide)) ?_
      intro r σ' hr; rw [hr.1, hr.2]; clear hr
      refine e_ifI (pc' := 31) (t := 34) dX11_breach_28 (by decide) rfl ⟨by first | omega | (split <;> omega), by first | omega | (split <;> omega)⟩ (fun (c6_3 : ((if 1 ≤ top ∧ top ≤ 12 then 1 else 0) : Int) ≠ 0) => ?_) (fun (c6_3 : ¬ (((if 1 ≤ top ∧ top ≤ 12 then 1 else 0) : Int) ≠ 0)) => ?_)
      · have c6_3n : 1 ≤ top ∧ top ≤ 12 := Classical.byContradiction (fun hpq_ => absurd (if_neg hpq_ : (if 1 ≤ top ∧ top ≤ 12 then (1 : Int) else 0) = 0) (by have := c6_3; omega))
        refine e_iconst (pc' := 35) dX11_breach_34 rfl ?_
        refine e_istore (pc' := 37) (L' := [some (rv 88), some (iv u), some (iv law), some (iv top), some (iv 0), none]) dX11_breach_35 rfl (by decide) rfl ?_
        rw [if_pos (by omega)]
        exact l_m_brA hR u law top (by omega) (by omega) (by omega) (top + 1).toNat 0 σ _ (by decide) (by omega) rfl hRt Fr.rf KA.rf
      · have c6_3n : ¬ (1 ≤ top ∧ top ≤ 12) := fun hpq_ => absurd (if_pos hpq_ : (if 1 ≤ top ∧ top ≤ 12 then (1 : Int) else 0) = 1) (by have := c6_3; omega)
        refine e_bipush (pc' := 33) (z := (-2)) dX11_breach_31 rfl (by decide) ?_
        exact e_iret dX11_breach_33 rfl ⟨rfl, Nat.le_refl _⟩ ⟨_, rfl, by rw [if_neg (by omega)], hRt, Fr.rf, KA.rf⟩

set_option maxHeartbeats 4000000 in
set_option maxRecDepth 100000 in
theorem l_m_image {X : AX} {d : Nat} {σ : SG} (k : Int) (hk : 0 ≤ k ∧ k ≤ 1) : ∀ (kk : Nat) (i : Int) (τ : SG), 0 ≤ i → i ≤ 182 → 182 - i < kk → ((∀ j, 0 ≤ j → j < i → τ.1 90 (182 * k + j) = σ.1 89 j) ∧ (∀ j, ¬ (182 * k ≤ j ∧ j < 182 * k + 182) → τ.1 90 j = σ.1 90 j) ∧ Fr [90] σ τ) → Ev X 0 0 d mX11_image 15 [some (rv 88), some (iv k), some (iv i)] [] τ (QI (fun r σ' => r = 1 ∧ ((∀ j, 0 ≤ j → j < 182 → σ'.1 90 (182 * k + j) = σ.1 89 j) ∧ (∀ j, ¬ (182 * k ≤ j ∧ j < 182 * k + 182) → σ'.1 90 j = σ.1 90 j) ∧ Fr [90, 91] σ σ') ∧ σ'.1 91 = updA (σ.1 91) k 1)) := by
  intro kk
  induction kk with
  | zero => intros; omega
  | succ kk ih =>
  intro i τ hi0 hi1 hik hI
  refine e_iload_n (pc' := 16) dX11_image_15 rfl rfl ?_
  refine e_sipush (pc' := 19) (z := 182) dX11_image_16 rfl (by decide) ?_
  refine e_icmpI (pc' := 22) (t := 46) dX11_image_19 (by decide) rfl ⟨by omega, by omega⟩ ⟨by omega, by omega⟩ (fun (c2_1 : 182 ≤ (i : Int)) => ?_) (fun (c2_1 : ¬ (182 ≤ (i : Int))) => ?_)
  · refine e_aload_n (pc' := 47) dX11_image_46 rfl rfl ?_
    refine e_getR (pc' := 50) dX11_image_47 rfl f_11_16 h_88 rfl ?_
    refine e_iload_n (pc' := 51) dX11_image_50 rfl rfl ?_
    refine e_iconst (pc' := 52) dX11_image_51 rfl ?_
    refine e_bast (pc' := 53) dX11_image_52 rfl h_91 (by decide) (by omega) (by omega) (by decide) ?_
    refine e_iconst (pc' := 54) dX11_image_53 rfl ?_
    exact e_iret dX11_image_54 rfl ⟨rfl, Nat.le_refl _⟩ ⟨_, rfl, rfl, ⟨(fun j a c => hI.1 j a (by omega)), hI.2.1, fr_I (hI.2.2.mono (by decide)) (by decide)⟩, by rw [upI_fn, (hI.2.2 91 (by decide)).1]⟩
  · refine e_aload_n (pc' := 23) dX11_image_22 rfl rfl ?_
    refine e_getR (pc' := 26) dX11_image_23 rfl f_11_13 h_88 rfl ?_
    refine e_sipush (pc' := 29) (z := 182) dX11_image_26 rfl (by decide) ?_
    refine e_iload_n (pc' := 30) dX11_image_29 rfl rfl ?_
    refine e_imul (pc' := 31) dX11_image_30 rfl ?_
    refine e_iload_n (pc' := 32) dX11_image_31 rfl rfl ?_
    refine e_iadd (pc' := 33) dX11_image_32 rfl ?_
    refine e_aload_n (pc' := 34) dX11_image_33 rfl rfl ?_
    refine e_getR (pc' := 37) dX11_image_34 rfl f_11_7 h_88 rfl ?_
    refine e_iload_n (pc' := 38) dX11_image_37 rfl rfl ?_
    refine e_iald (pc' := 39) (v := (σ.1 89 i)) dX11_image_38 rfl h_89 (by decide) (by omega) (by omega) (congrFun (hI.2.2 89 (by decide)).1 i) ?_
    refine e_iast (pc' := 40) dX11_image_39 rfl h_90 (by decide) (by omega) (by omega) ?_
    refine e_iinc (pc' := 43) (L' := [some (rv 88), some (iv k), some (iv (i + 1))]) dX11_image_40 rfl rfl (by decide) rfl ?_
    refine e_goto (pc' := 15) dX11_image_43 (by decide) ?_
    refine ih (i + 1) (upI τ 90 ((182 * k) + i) (σ.1 89 i)) (by omega) (by omega) (by omega) ⟨fun j a c => ?_, fun j q => ?_, fr_I hI.2.2 (by decide)⟩
    · by_cases hj : j = i
      · rw [hj]; exact if_pos ⟨rfl, rfl⟩
      · exact (if_neg (fun q => hj (by have := q.2; omega)) : (upI τ 90 ((182 * k) + i) (σ.1 89 i)).1 90 (182 * k + j) = τ.1 90 (182 * k + j)).trans (hI.1 j a (by omega))
    · exact (if_neg (fun z => q (by have := z.2; omega)) : (upI τ 90 ((182 * k) + i) (σ.1 89 i)).1 90 j = τ.1 90 j).trans (hI.2.1 j q)

set_option maxHeartbeats 4000000 in
set_option maxRecDepth 100000 in
theorem s_m_image {X : AX} {d : Nat} {σ : SG} (k : Int) (hk : rg k) : Ev X 0 0 (d + 1) mX11_image 0 [some (rv 88), some (iv k), none] [] σ (QI (fun r σ' => if 0 ≤ k ∧ k ≤ 1 then (r = 1 ∧ ((∀ j, 0 ≤ j → j < 182 → σ'.1 90 (182 * k + j) = σ.1 89 j) ∧ (∀ j, ¬ (182 * k ≤ j ∧ j < 182 * k + 182) → σ'.1 90 j = σ.1 90 j) ∧ Fr [90, 91] σ σ') ∧ σ'.1 91 = updA (σ.1 91) k 1) else (r = -2 ∧ σ' = σ))) := by
  obtain ⟨hk1, hk2⟩ := hk
  refine e_iload_n (pc' := 1) dX11_image_0 rfl rfl ?_
  refine e_i2l (pc' := 2) dX11_image_1 rfl ⟨by first | omega | (split <;> omega), by first | omega | (split <;> omega)⟩ ?_
  refine e_lconst (pc' := 3) (z := 0) dX11_image_2 rfl rfl ?_
  refine e_lconst (pc' := 4) (z := 1) dX11_image_3 rfl rfl ?_
  refine e_cs3i (pc' := 7) dX11_image_4 rfl pn_11_80 k_11_80 (Nat.le_of_ble_eq_true rfl) rfl rfl ⟨rfl, rfl⟩ ⟨Nat.zero_le _, Nat.zero_le _⟩ (s_m_in k 0 1 (i64_to ⟨by omega, by omega⟩) (by decide) (by decide)) ?_
  intro r σ' hr; rw [hr.1, hr.2]; clear hr
  refine e_ifI (pc' := 10) (t := 13) dX11_image_7 (by decide) rfl ⟨by first | omega | (split <;> omega), by first | omega | (split <;> omega)⟩ (fun (c2_1 : ((if 0 ≤ k ∧ k ≤ 1 then 1 else 0) : Int) ≠ 0) => ?_) (fun (c2_1 : ¬ (((if 0 ≤ k ∧ k ≤ 1 then 1 else 0) : Int) ≠ 0)) => ?_)
  · have c2_1n : 0 ≤ k ∧ k ≤ 1 := Classical.byContradiction (fun hpq_ => absurd (if_neg hpq_ : (if 0 ≤ k ∧ k ≤ 1 then (1 : Int) else 0) = 0) (by have := c2_1; omega))
    refine e_iconst (pc' := 14) dX11_image_13 rfl ?_
    refine e_istore_n (pc' := 15) (L' := [some (rv 88), some (iv k), some (iv 0)]) dX11_image_14 rfl (by decide) rfl ?_
    refine (l_m_image k (by omega) 183 0 σ (by decide) (by decide) (by decide) ⟨fun j a c => absurd c (by omega), fun _ _ => rfl, Fr.rf⟩).imp ?_
    rintro v σ' ⟨r, rfl, hr⟩
    exact ⟨r, rfl, Eq.mpr (if_pos (by omega)) hr⟩
  · have c2_1n : ¬ (0 ≤ k ∧ k ≤ 1) := fun hpq_ => absurd (if_pos hpq_ : (if 0 ≤ k ∧ k ≤ 1 then (1 : Int) else 0) = 1) (by have := c2_1; omega)
    refine e_bipush (pc' := 12) (z := (-2)) dX11_image_10 rfl (by decide) ?_
    exact e_iret dX11_image_12 rfl ⟨rfl, Nat.le_refl _⟩ ⟨_, rfl, by dsimp only; rw [if_neg (by omega)]; exact ⟨rfl, rfl⟩⟩

set_option maxHeartbeats 4000000 in
set_option maxRecDepth 100000 in
theorem l_m_from {X : AX} {d : Nat} {σ : SG} (k : Int) (hk : 0 ≤ k ∧ k ≤ 1) : ∀ (kk : Nat) (i : Int) (τ : SG), 0 ≤ i → i ≤ 182 → 182 - i < kk → ((∀ j, 0 ≤ j → j < i → τ.1 89 j = σ.1 90 (182 * k + j)) ∧ Fr [89] σ τ) → Ev X 0 0 d mX11_from 27 [some (rv 88), some (iv k), some (iv i)] [] τ (QI (fun r σ' => r = 1 ∧ ((∀ j, 0 ≤ j → j < 182 → σ'.1 89 j = σ.1 90 (182 * k + j)) ∧ Fr [89] σ σ'))) := by
  intro kk
  induction kk with
  | zero => intros; omega
  | succ kk ih =>
  intro i τ hi0 hi1 hik hI
  refine e_iload_n (pc' := 28) dX11_from_27 rfl rfl ?_
  refine e_sipush (pc' := 31) (z := 182) dX11_from_28 rfl (by decide) ?_
  refine e_icmpI (pc' := 34) (t := 58) dX11_from_31 (by decide) rfl ⟨by omega, by omega⟩ ⟨by omega, by omega⟩ (fun (c2_1 : 182 ≤ (i : Int)) => ?_) (fun (c2_1 : ¬ (182 ≤ (i : Int))) => ?_)
  · refine e_iconst (pc' := 59) dX11_from_58 rfl ?_
    exact e_iret dX11_from_59 rfl ⟨rfl, Nat.le_refl _⟩ ⟨_, rfl, rfl, (fun j a c => hI.1 j a (by omega)), hI.2⟩
  · refine e_aload_n (pc' := 35) dX11_from_34 rfl rfl ?_
    refine e_getR (pc' := 38) dX11_from_35 rfl f_11_7 h_88 rfl ?_
    refine e_iload_n (pc' := 39) dX11_from_38 rfl rfl ?_
    refine e_aload_n (pc' := 40) dX11_from_39 rfl rfl ?_
    refine e_getR (pc' := 43) dX11_from_40 rfl f_11_13 h_88 rfl ?_
    refine e_sipush (pc' := 46) (z := 182) dX11_from_43 rfl (by decide) ?_
    refine e_iload_n (pc' := 47) dX11_from_46 rfl rfl ?_
    refine e_imul (pc' := 48) dX11_from_47 rfl ?_
    refine e_iload_n (pc' := 49) dX11_from_48 rfl rfl ?_
    refine e_iadd (pc' := 50) dX11_from_49 rfl ?_
    refine e_iald (pc' := 51) (v := (σ.1 90 (182 * k + i))) dX11_from_50 rfl h_90 (by decide) (by omega) (by omega) (congrFun (hI.2 90 (by decide)).1 _) ?_
    refine e_iast (pc' := 52) dX11_from_51 rfl h_89 (by decide) (by omega) (by omega) ?_
    refine e_iinc (pc' := 55) (L' := [some (rv 88), some (iv k), some (iv (i + 1))]) dX11_from_52 rfl rfl (by decide) rfl ?_
    refine e_goto (pc' := 27) dX11_from_55 (by decide) ?_
    refine ih (i + 1) (upI τ 89 i (σ.1 90 (182 * k + i))) (by omega) (by omega) (by omega) ⟨fun j a c => ?_, fr_I hI.2 (by decide)⟩
    by_cases hj : j = i
    · rw [hj]; exact if_pos ⟨rfl, rfl⟩
    · exact (if_neg (fun q => hj q.2) : (upI τ 89 i (σ.1 90 (182 * k + i))).1 89 j = τ.1 89 j).trans (hI.1 j a (by omega))

set_option maxHeartbeats 4000000 in
set_option maxRecDepth 100000 in
theorem s_m_from {X : AX} {d : Nat} {σ : SG} (hkp : ∀ j, 0 ≤ j → j < 2 → σ.1 91 j = 0 ∨ σ.1 91 j = 1) (k : Int) (hk : rg k) : Ev X 0 0 (d + 1) mX11_from 0 [some (rv 88), some (iv k), none] [] σ (QI (fun r σ' => if 0 ≤ k ∧ k ≤ 1 then (if σ.1 91 k = 0 then (r = -3 ∧ σ' = σ) else (r = 1 ∧ ((∀ j, 0 ≤ j → j < 182 → σ'.1 89 j = σ.1 90 (182 * k + j)) ∧ Fr [89] σ σ'))) else (r = -2 ∧ σ' = σ))) := by
  obtain ⟨hk1, hk2⟩ := hk
  refine e_iload_n (pc' := 1) dX11_from_0 rfl rfl ?_
  refine e_i2l (pc' := 2) dX11_from_1 rfl ⟨by first | omega | (split <;> omega) | (have := isKept_cases hkp (k := k) (by omega); omega), by first | omega | (split <;> omega) | (have := isKept_cases hkp (k := k) (by omega); omega)⟩ ?_
  refine e_lconst (pc' := 3) (z := 0) dX11_from_2 rfl rfl ?_
  refine e_lconst (pc' := 4) (z := 1) dX11_from_3 rfl rfl ?_
  refine e_cs3i (pc' := 7) dX11_from_4 rfl pn_11_80 k_11_80 (Nat.le_of_ble_eq_true rfl) rfl rfl ⟨rfl, rfl⟩ ⟨Nat.zero_le _, Nat.zero_le _⟩ (s_m_in k 0 1 (i64_to ⟨by omega, by omega⟩) (by decide) (by decide)) ?_
  intro r σ' hr; rw [hr.1, hr.2]; clear hr
  refine e_ifI (pc' := 10) (t := 13) dX11_from_7 (by decide) rfl ⟨by first | omega | (split <;> omega) | (have := isKept_cases hkp (k := k) (by omega); omega), by first | omega | (split <;> omega) | (have := isKept_cases hkp (k := k) (by omega); omega)⟩ (fun (c2_1 : ((if 0 ≤ k ∧ k ≤ 1 then 1 else 0) : Int) ≠ 0) => ?_) (fun (c2_1 : ¬ (((if 0 ≤ k ∧ k ≤ 1 then 1 else 0) : Int) ≠ 0)) => ?_)
  · have c2_1n : 0 ≤ k ∧ k ≤ 1 := Classical.byContradiction (fun hpq_ => absurd (if_neg hpq_ : (if 0 ≤ k ∧ k ≤ 1 then (1 : Int) else 0) = 0) (by have := c2_1; omega))
    refine e_aload_n (pc' := 14) dX11_from_13 rfl rfl ?_
    refine e_getR (pc' := 17) dX11_from_14 rfl f_11_16 h_88 rfl ?_
    refine e_iload_n (pc' := 18) dX11_from_17 rfl rfl ?_
    refine e_bald (pc' := 19) (v := (σ.1 91 k)) dX11_from_18 rfl h_91 (by decide) (by omega) (by omega) rfl ?_
    refine e_ifI (pc' := 22) (t := 25) dX11_from_19 (by decide) rfl ⟨by first | omega | (split <;> omega) | (have := isKept_cases hkp (k := k) (by omega); omega), by first | omega | (split <;> omega) | (have := isKept_cases hkp (k := k) (by omega); omega)⟩ (fun (c4_2 : ((σ.1 91 k) : Int) ≠ 0) => ?_) (fun (c4_2 : ¬ (((σ.1 91 k) : Int) ≠ 0)) => ?_)
    · refine e_iconst (pc' := 26) dX11_from_25 rfl ?_
      refine e_istore_n (pc' := 27) (L' := [some (rv 88), some (iv k), some (iv 0)]) dX11_from_26 rfl (by decide) rfl ?_
      refine (l_m_from k (by omega) 183 0 σ (by decide) (by decide) (by decide) ⟨fun j a c => absurd c (by omega), Fr.rf⟩).imp ?_
      rintro v σ' ⟨r, rfl, hr⟩
      exact ⟨r, rfl, Eq.mpr (if_pos (by omega)) (Eq.mpr (if_neg (by assumption)) hr)⟩
    · refine e_bipush (pc' := 24) (z := (-3)) dX11_from_22 rfl (by decide) ?_
      exact e_iret dX11_from_24 rfl ⟨rfl, Nat.le_refl _⟩ ⟨_, rfl, by dsimp only; first | (rw [if_neg (by omega)]; exact ⟨rfl, rfl⟩) | (rw [if_pos (by omega), if_pos (by omega)]; exact ⟨rfl, rfl⟩)⟩
  · have c2_1n : ¬ (0 ≤ k ∧ k ≤ 1) := fun hpq_ => absurd (if_pos hpq_ : (if 0 ≤ k ∧ k ≤ 1 then (1 : Int) else 0) = 1) (by have := c2_1; omega)
    refine e_bipush (pc' := 12) (z := (-2)) dX11_from_10 rfl (by decide) ?_
    exact e_iret dX11_from_12 rfl ⟨rfl, Nat.le_refl _⟩ ⟨_, rfl, by dsimp only; first | (rw [if_neg (by omega)]; exact ⟨rfl, rfl⟩) | (rw [if_pos (by omega), if_pos (by omega)]; exact ⟨rfl, rfl⟩)⟩
