set_option maxHeartbeats 4000000 in
set_option maxRecDepth 100000 in
theorem s_good {X : AX} {d : Nat} {σ : SG} (ho : ScOK σ 1) (co tot : Int) (hcoe : co = smI (σ.1 2) (σ.1 1 6)) (hte : tot = min 260 (co + σ.1 1 10)) (hco : 0 ≤ co ∧ co ≤ 60) (hR : GwR σ co tot) (k : Int) (hk : rg k) : Ev X 0 0 (d + 4) mX10_good 0 [some (rv 0), some (iv k)] [] σ (QI (fun r σ' => r = (if k = -1 then GW σ co 0 tot else if 0 ≤ k ∧ k < σ.1 1 7 then rowW (gR σ co 0 tot) (gR σ co 1 (tot - gR σ co 0 tot)) (gR σ co 2 (tot - gR σ co 0 tot - gR σ co 1 (tot - gR σ co 0 tot))) k else -10) ∧ Fr [49, 50, 51, 52] σ σ')) := by
  obtain ⟨hk1, hk2⟩ := hk
  have h7 := ho.2.1
  refine e_iload_n (pc' := 1) dX10_good_0 rfl rfl ?_
  refine e_iconst (pc' := 2) dX10_good_1 rfl ?_
  refine e_icmpI (pc' := 5) (t := 16) dX10_good_2 (by decide) rfl ⟨by first | omega | (split <;> omega), by first | omega | (split <;> omega)⟩ ⟨by omega, by omega⟩ (fun (c2_1 : (k : Int) = (-1)) => ?_) (fun (c2_1 : ¬ ((k : Int) = (-1))) => ?_)
  · refine e_aload_n (pc' := 17) dX10_good_16 rfl rfl ?_
    refine e_getR (pc' := 20) dX10_good_17 rfl f_10_71 h_0 rfl ?_
    refine e_aload_n (pc' := 21) dX10_good_20 rfl rfl ?_
    refine e_getR (pc' := 24) dX10_good_21 rfl f_10_10 h_0 rfl ?_
    refine e_cv1v (pc' := 27) dX10_good_24 rfl k_10_208 h_49 rfl (Nat.le_of_ble_eq_true rfl) rfl rfl ⟨rfl, rfl⟩ ⟨Nat.zero_le _, Nat.zero_le _⟩ (s_find ho co tot hcoe hte hco hR) ?_
    rintro τ1 ⟨hm1, hr1, hG1⟩
    have ho1 : ScOK τ1 1 := ho.cg (sameSc_C hG1)
    refine e_iload_n (pc' := 28) dX10_good_27 rfl rfl ?_
    refine e_iconst (pc' := 29) dX10_good_28 rfl ?_
    refine e_icmpI (pc' := 32) (t := 42) dX10_good_29 (by decide) rfl ⟨by first | omega | (split <;> omega), by first | omega | (split <;> omega)⟩ ⟨by omega, by omega⟩ (fun (c4_2 : (k : Int) ≠ (-1)) => ?_) (fun (c4_2 : ¬ ((k : Int) ≠ (-1))) => ?_)
    · refine e_aload_n (pc' := 43) dX10_good_42 rfl rfl ?_
      refine e_getR (pc' := 46) dX10_good_43 rfl f_10_71 h_0 rfl ?_
      refine e_getR (pc' := 49) dX10_good_46 rfl f_10_212 h_49 rfl ?_
      refine e_iload_n (pc' := 50) dX10_good_49 rfl rfl ?_
      refine e_iald (pc' := 51) (v := (τ1.1 52 k)) dX10_good_50 rfl h_52 (by decide) (by omega) (by omega) rfl ?_
      exact e_iret dX10_good_51 rfl ⟨rfl, Nat.le_refl _⟩ ⟨_, rfl, by first | (exfalso; omega) | (rw [if_pos (by omega)]) | (rw [if_neg (by omega), if_pos (by omega)]; unfold rowW; have hq : k = 0 ∨ k = 1 ∨ k = 2 := (by omega); rcases hq with hq | hq | hq <;> rw [hq]; exact hr1.1; exact hr1.2.1; exact hr1.2.2), hG1⟩
    · refine e_aload_n (pc' := 33) dX10_good_32 rfl rfl ?_
      refine e_getR (pc' := 36) dX10_good_33 rfl f_10_71 h_0 rfl ?_
      refine e_getI (pc' := 39) (v := (GW σ co 0 tot)) dX10_good_36 rfl f_10_211 h_49 rfl hm1 ?_
      refine e_goto (pc' := 51) dX10_good_39 (by decide) ?_
      exact e_iret dX10_good_51 rfl ⟨rfl, Nat.le_refl _⟩ ⟨_, rfl, by first | (exfalso; omega) | (rw [if_pos (by omega)]) | (rw [if_neg (by omega), if_pos (by omega)]; unfold rowW; have hq : k = 0 ∨ k = 1 ∨ k = 2 := (by omega); rcases hq with hq | hq | hq <;> rw [hq]; exact hr1.1; exact hr1.2.1; exact hr1.2.2), hG1⟩
  · refine e_aload_n (pc' := 6) dX10_good_5 rfl rfl ?_
    refine e_iload_n (pc' := 7) dX10_good_6 rfl rfl ?_
    refine e_cv1i (pc' := 10) dX10_good_7 rfl k_10_158 h_0 rfl (Nat.le_of_ble_eq_true rfl) rfl rfl ⟨rfl, rfl⟩ ⟨Nat.zero_le _, Nat.zero_le _⟩ (s_isWork k ⟨by omega, by omega⟩ ho.2.1) ?_
    intro r σ' hr; rw [hr.1, hr.2]; clear hr
    refine e_ifI (pc' := 13) (t := 16) dX10_good_10 (by decide) rfl ⟨by first | omega | (split <;> omega), by first | omega | (split <;> omega)⟩ (fun (c4_2 : ((if 0 ≤ k ∧ k < σ.1 1 7 then 1 else 0) : Int) ≠ 0) => ?_) (fun (c4_2 : ¬ (((if 0 ≤ k ∧ k < σ.1 1 7 then 1 else 0) : Int) ≠ 0)) => ?_)
    · have c4_2n : 0 ≤ k ∧ k < σ.1 1 7 := Classical.byContradiction (fun q => absurd (if_neg q : (if 0 ≤ k ∧ k < σ.1 1 7 then (1 : Int) else 0) = 0) (by have := c4_2; omega))
      refine e_aload_n (pc' := 17) dX10_good_16 rfl rfl ?_
      refine e_getR (pc' := 20) dX10_good_17 rfl f_10_71 h_0 rfl ?_
      refine e_aload_n (pc' := 21) dX10_good_20 rfl rfl ?_
      refine e_getR (pc' := 24) dX10_good_21 rfl f_10_10 h_0 rfl ?_
      refine e_cv1v (pc' := 27) dX10_good_24 rfl k_10_208 h_49 rfl (Nat.le_of_ble_eq_true rfl) rfl rfl ⟨rfl, rfl⟩ ⟨Nat.zero_le _, Nat.zero_le _⟩ (s_find ho co tot hcoe hte hco hR) ?_
      rintro τ1 ⟨hm1, hr1, hG1⟩
      have ho1 : ScOK τ1 1 := ho.cg (sameSc_C hG1)
      refine e_iload_n (pc' := 28) dX10_good_27 rfl rfl ?_
      refine e_iconst (pc' := 29) dX10_good_28 rfl ?_
      refine e_icmpI (pc' := 32) (t := 42) dX10_good_29 (by decide) rfl ⟨by first | omega | (split <;> omega), by first | omega | (split <;> omega)⟩ ⟨by omega, by omega⟩ (fun (c6_3 : (k : Int) ≠ (-1)) => ?_) (fun (c6_3 : ¬ ((k : Int) ≠ (-1))) => ?_)
      · refine e_aload_n (pc' := 43) dX10_good_42 rfl rfl ?_
        refine e_getR (pc' := 46) dX10_good_43 rfl f_10_71 h_0 rfl ?_
        refine e_getR (pc' := 49) dX10_good_46 rfl f_10_212 h_49 rfl ?_
        refine e_iload_n (pc' := 50) dX10_good_49 rfl rfl ?_
        refine e_iald (pc' := 51) (v := (τ1.1 52 k)) dX10_good_50 rfl h_52 (by decide) (by omega) (by omega) rfl ?_
        exact e_iret dX10_good_51 rfl ⟨rfl, Nat.le_refl _⟩ ⟨_, rfl, by first | (exfalso; omega) | (rw [if_pos (by omega)]) | (rw [if_neg (by omega), if_pos (by omega)]; unfold rowW; have hq : k = 0 ∨ k = 1 ∨ k = 2 := (by omega); rcases hq with hq | hq | hq <;> rw [hq]; exact hr1.1; exact hr1.2.1; exact hr1.2.2), hG1⟩
      · refine e_aload_n (pc' := 33) dX10_good_32 rfl rfl ?_
        refine e_getR (pc' := 36) dX10_good_33 rfl f_10_71 h_0 rfl ?_
        refine e_getI (pc' := 39) (v := (GW σ co 0 tot)) dX10_good_36 rfl f_10_211 h_49 rfl hm1 ?_
        refine e_goto (pc' := 51) dX10_good_39 (by decide) ?_
        exact e_iret dX10_good_51 rfl ⟨rfl, Nat.le_refl _⟩ ⟨_, rfl, by first | (exfalso; omega) | (rw [if_pos (by omega)]) | (rw [if_neg (by omega), if_pos (by omega)]; unfold rowW; have hq : k = 0 ∨ k = 1 ∨ k = 2 := (by omega); rcases hq with hq | hq | hq <;> rw [hq]; exact hr1.1; exact hr1.2.1; exact hr1.2.2), hG1⟩
    · have c4_2n : ¬ (0 ≤ k ∧ k < σ.1 1 7) := fun q => absurd (if_pos q : (if 0 ≤ k ∧ k < σ.1 1 7 then (1 : Int) else 0) = 1) (by have := c4_2; omega)
      refine e_bipush (pc' := 15) (z := (-10)) dX10_good_13 rfl (by decide) ?_
      exact e_iret dX10_good_15 rfl ⟨rfl, Nat.le_refl _⟩ ⟨_, rfl, by rw [if_neg (by omega), if_neg (by omega)], Fr.rf⟩

set_option maxHeartbeats 4000000 in
set_option maxRecDepth 100000 in
theorem s_lost {X : AX} {d : Nat} {σ : SG} (ho : ScOK σ 1) (co tot : Int) (hcoe : co = smI (σ.1 2) (σ.1 1 6)) (hte : tot = min 260 (co + σ.1 1 10)) (hco : 0 ≤ co ∧ co ≤ 60) (hR : GwR σ co tot) : Ev X 0 0 (d + 4) mX10_lost 0 [some (rv 0)] [] σ (QI (fun r σ' => r = GW σ co 0 tot - smI (fun g => bfS σ 1 g) (σ.1 1 6) ∧ Fr [37, 38, 39, 40, 41, 42, 49, 50, 51, 52] σ σ')) := by
  refine e_aload_n (pc' := 1) dX10_lost_0 rfl rfl ?_
  refine e_getR (pc' := 4) dX10_lost_1 rfl f_10_71 h_0 rfl ?_
  refine e_aload_n (pc' := 5) dX10_lost_4 rfl rfl ?_
  refine e_getR (pc' := 8) dX10_lost_5 rfl f_10_10 h_0 rfl ?_
  refine e_cv1v (pc' := 11) dX10_lost_8 rfl k_10_208 h_49 rfl (Nat.le_of_ble_eq_true rfl) rfl rfl ⟨rfl, rfl⟩ ⟨Nat.zero_le _, Nat.zero_le _⟩ (s_find ho co tot hcoe hte hco hR) ?_
  rintro τ1 ⟨hm1, hr1, hG1⟩
  have ho1 : ScOK τ1 1 := ho.cg (sameSc_C hG1)
  refine e_aload_n (pc' := 12) dX10_lost_11 rfl rfl ?_
  refine e_getR (pc' := 15) dX10_lost_12 rfl f_10_46 h_0 rfl ?_
  refine e_aload_n (pc' := 16) dX10_lost_15 rfl rfl ?_
  refine e_getR (pc' := 19) dX10_lost_16 rfl f_10_10 h_0 rfl ?_
  refine e_cv1v (pc' := 22) dX10_lost_19 rfl k_10_161 h_39 rfl (Nat.le_of_ble_eq_true rfl) rfl rfl ⟨rfl, rfl⟩ ⟨Nat.zero_le _, Nat.zero_le _⟩ (s_fill_1 ho1) ?_
  rintro τ2 ⟨hL2, hG2⟩
  have ho2 : ScOK τ2 1 := ho1.cg (sameSc_1 hG2)
  have hm2 : τ2.1 49 3 = GW σ co 0 tot := (congrFun (hG2 49 (by decide)).1 3).trans hm1
  refine e_aload_n (pc' := 23) dX10_lost_22 rfl rfl ?_
  refine e_getR (pc' := 26) dX10_lost_23 rfl f_10_71 h_0 rfl ?_
  refine e_getI (pc' := 29) (v := (GW σ co 0 tot)) dX10_lost_26 rfl f_10_211 h_49 rfl hm2 ?_
  refine e_aload_n (pc' := 30) dX10_lost_29 rfl rfl ?_
  refine e_getR (pc' := 33) dX10_lost_30 rfl f_10_46 h_0 rfl ?_
  refine e_aload_n (pc' := 34) dX10_lost_33 rfl rfl ?_
  refine e_getR (pc' := 37) dX10_lost_34 rfl f_10_10 h_0 rfl ?_
  refine e_cv1i (pc' := 40) dX10_lost_37 rfl k_10_181 h_39 rfl (Nat.le_of_ble_eq_true rfl) rfl rfl ⟨rfl, rfl⟩ ⟨Nat.zero_le _, Nat.zero_le _⟩ (s_allHave_1 ho2 (LgI_q ho1 hL2 (gfS_rg ho1))) ?_
  intro r σ' hr; rw [hr.1, hr.2]; clear hr σ'
  rw [show (fun g => hvO τ2 1 (fun w => τ2.1 40 w + τ2.1 42 w) (ktO τ2 1 g) g) = (fun g => bfS σ 1 g) from funext fun g => (hv_bf (sameSc_1 hG2) hL2).trans (bfS_cg ho (sameSc_C hG1) g), (hG2 1 (by decide)).1, (hG1 1 (by decide)).1]
  refine e_isub (pc' := 41) dX10_lost_40 rfl ?_
  exact e_iret dX10_lost_41 rfl ⟨rfl, Nat.le_refl _⟩ ⟨_, rfl, rfl, (hG1.mono (by decide)).tr (hG2.mono (by decide))⟩

/-- the first breach: by a, then b -/
def brB (f : Int → Int → Bool) (a : Int) : Nat → Int → Int
  | 0, _ => -1
  | n + 1, b => if f a b then brB f a n (b + 1) else 100 * a + b
def brA (f : Int → Int → Bool) (top : Int) : Nat → Int → Int
  | 0, _ => -1
  | n + 1, a => if brB f a (top + 1).toNat 0 = -1 then brA f top n (a + 1) else brB f a (top + 1).toNat 0
theorem hdB_fr {σ τ : SG} {r : Nat} (h0 : τ.1 r = σ.1 r) (h2 : τ.1 (r + 2) = σ.1 (r + 2)) (law top a b : Int) : hdB τ r law top a b = hdB σ r law top a b := by
  unfold hdB
  simp only [addS_fr h0 h2]
theorem brB_rg {f : Int → Int → Bool} {a : Int} (ha : 0 ≤ a) : ∀ (n : Nat) (b : Int), 0 ≤ b → brB f a n b = -1 ∨ 0 ≤ brB f a n b
  | 0, _, _ => Or.inl rfl
  | n + 1, b, hb => by
    unfold brB
    split
    · exact brB_rg ha n (b + 1) (by omega)
    · right; omega

set_option maxHeartbeats 4000000 in
set_option maxRecDepth 100000 in
theorem l_brB_8 {X : AX} {d : Nat} {σ : SG} (ho : ScOK σ 1) (law top : Int) (hl : 0 ≤ law ∧ law ≤ 3) (ht : 1 ≤ top ∧ top ≤ 12) (R0 a : Int) (ha : 0 ≤ a ∧ a ≤ top) (hR0 : 0 ≤ brB (fun a b => hdB σ 8 law top a b) a (top + 1).toNat 0 → R0 = brB (fun a b => hdB σ 8 law top a b) a (top + 1).toNat 0) (hK : ∀ (τ : SG) (y6 : Option AV), brB (fun a b => hdB σ 8 law top a b) a (top + 1).toNat 0 = -1 → Fr [37, 38] σ τ → Ev X 0 0 (d + 6) mX10_breach 91 [some (rv 0), some (iv 0), some (iv law), some (iv top), some (rv 8), some (iv a), y6] [] τ (QI (fun v σ' => v = R0 ∧ Fr [37, 38] σ σ'))) : ∀ (n : Nat) (b : Int) (τ : SG), 0 ≤ b → b + n = top + 1 → brB (fun a b => hdB σ 8 law top a b) a (top + 1).toNat 0 = brB (fun a b => hdB σ 8 law top a b) a n b → Fr [37, 38] σ τ → Ev X 0 0 (d + 6) mX10_breach 52 [some (rv 0), some (iv 0), some (iv law), some (iv top), some (rv 8), some (iv a), some (iv b)] [] τ (QI (fun v σ' => v = R0 ∧ Fr [37, 38] σ σ')) := by
  intro n
  induction n using Nat.strongRecOn with
  | ind n ih =>
  intro b τ hb0 hn hI hF
  have q0 : τ.1 8 = σ.1 8 := (hF 8 (by decide)).1
  have q2 : τ.1 10 = σ.1 10 := (hF 10 (by decide)).1
  have hrσ : RlOK σ 8 := by first | exact ho.2.2.2.2.2.2.2.2.2.2.2.1 | exact ho.2.2.2.2.2.2.2.2.2.2.2.2.1 | exact ho.2.2.2.2.2.2.2.2.2.2.2.2.2
  have hrτ : RlOK τ 8 := hrσ.fr q0 q2
  refine e_iload (pc' := 54) dX10_breach_52 rfl rfl ?_
  refine e_iload_n (pc' := 55) dX10_breach_54 rfl rfl ?_
  refine e_icmpI (pc' := 58) (t := 91) dX10_breach_55 (by decide) rfl ⟨by first | omega | (rw [hv]; unfold b2i; split <;> omega), by first | omega | (rw [hv]; unfold b2i; split <;> omega)⟩ ⟨by first | omega | (rw [hv]; unfold b2i; split <;> omega), by first | omega | (rw [hv]; unfold b2i; split <;> omega)⟩ (fun (c2_1 : top < (b : Int)) => ?_) (fun (c2_1 : ¬ (top < (b : Int))) => ?_)
  · match n, hn, hI with
    | 0, hn, hI => exact hK τ _ hI hF
    | n + 1, hn, hI => omega
  · refine e_aload_n (pc' := 59) dX10_breach_58 rfl rfl ?_
    refine e_getR (pc' := 62) dX10_breach_59 rfl f_10_85 h_0 rfl ?_
    refine e_aload (pc' := 64) dX10_breach_62 rfl rfl ?_
    refine e_iload_n (pc' := 65) dX10_breach_64 rfl rfl ?_
    refine e_iload_n (pc' := 66) dX10_breach_65 rfl rfl ?_
    refine e_iload (pc' := 68) dX10_breach_66 rfl rfl ?_
    refine e_iload (pc' := 70) dX10_breach_68 rfl rfl ?_
    refine e_cv5i (pc' := 73) dX10_breach_70 rfl k_10_229 h_55 rfl (Nat.le_of_ble_eq_true rfl) rfl rfl ⟨rfl, rfl⟩ ⟨Nat.zero_le _, Nat.zero_le _⟩ (s_hold_8 hrτ law top a b hl ht ⟨by omega, by omega⟩ ⟨by omega, by omega⟩) ?_
    rintro v τ2 ⟨hv, hG2⟩
    rw [hdB_fr q0 q2] at hv
    refine e_ifI (pc' := 76) (t := 85) dX10_breach_73 (by decide) rfl ⟨by first | omega | (rw [hv]; unfold b2i; split <;> omega), by first | omega | (rw [hv]; unfold b2i; split <;> omega)⟩ (fun (c4_2 : (v : Int) ≠ 0) => ?_) (fun (c4_2 : ¬ ((v : Int) ≠ 0)) => ?_)
    · have hb1 : hdB σ 8 law top a b = true := by cases hq : hdB σ 8 law top a b <;> first | rfl | (rw [hq] at hv; exact absurd hv c4_2)
      refine e_iinc (pc' := 88) (L' := [some (rv 0), some (iv 0), some (iv law), some (iv top), some (rv 8), some (iv a), some (iv (b + 1))]) dX10_breach_85 rfl rfl (by decide) rfl ?_
      refine e_goto (pc' := 52) dX10_breach_88 (by decide) ?_
      match n, hn, hI with
      | 0, hn, hI => omega
      | n + 1, hn, hI => exact ih n (by omega) _ _ (by omega) (by omega) (hI.trans (if_pos hb1)) (hF.tr hG2)
    · have hb1 : hdB σ 8 law top a b = false := by cases hq : hdB σ 8 law top a b <;> first | rfl | (rw [hq] at hv; exact absurd (by rw [hv]; decide) c4_2)
      refine e_bipush (pc' := 78) (z := 100) dX10_breach_76 rfl (by decide) ?_
      refine e_iload (pc' := 80) dX10_breach_78 rfl rfl ?_
      refine e_imul (pc' := 81) dX10_breach_80 rfl ?_
      refine e_iload (pc' := 83) dX10_breach_81 rfl rfl ?_
      refine e_iadd (pc' := 84) dX10_breach_83 rfl ?_
      exact e_iret dX10_breach_84 rfl ⟨rfl, Nat.le_refl _⟩ ⟨_, rfl, by match n, hn, hI with
    | 0, hn, hI => omega
    | n + 1, hn, hI =>
      have e := hI.trans (if_neg (show ¬ (hdB σ 8 law top a b = true) by rw [hb1]; decide))
      rw [hR0 (by rw [e]; omega), e], hF.tr hG2⟩

set_option maxHeartbeats 4000000 in
set_option maxRecDepth 100000 in
theorem l_brA_8 {X : AX} {d : Nat} {σ : SG} (ho : ScOK σ 1) (law top : Int) (hl : 0 ≤ law ∧ law ≤ 3) (ht : 1 ≤ top ∧ top ≤ 12) : ∀ (n : Nat) (a : Int) (τ : SG) (x6 : Option AV), 0 ≤ a → a + n = top + 1 → brA (fun a b => hdB σ 8 law top a b) top (top + 1).toNat 0 = brA (fun a b => hdB σ 8 law top a b) top n a → Fr [37, 38] σ τ → Ev X 0 0 (d + 6) mX10_breach 43 [some (rv 0), some (iv 0), some (iv law), some (iv top), some (rv 8), some (iv a), x6] [] τ (QI (fun v σ' => v = brA (fun a b => hdB σ 8 law top a b) top (top + 1).toNat 0 ∧ Fr [37, 38] σ σ')) := by
  intro n
  induction n using Nat.strongRecOn with
  | ind n ih =>
  intro a τ x6 ha0 hn hI hF
  refine e_iload (pc' := 45) dX10_breach_43 rfl rfl ?_
  refine e_iload_n (pc' := 46) dX10_breach_45 rfl rfl ?_
  refine e_icmpI (pc' := 49) (t := 97) dX10_breach_46 (by decide) rfl ⟨by omega, by omega⟩ ⟨by omega, by omega⟩ (fun (c2_1 : top < (a : Int)) => ?_) (fun (c2_1 : ¬ (top < (a : Int))) => ?_)
  · refine e_iconst (pc' := 98) dX10_breach_97 rfl ?_
    exact e_iret dX10_breach_98 rfl ⟨rfl, Nat.le_refl _⟩ ⟨_, rfl, by match n, hn, hI with
    | 0, hn, hI => exact hI.symm
    | n + 1, hn, hI => omega, hF⟩
  · refine e_iconst (pc' := 50) dX10_breach_49 rfl ?_
    refine e_istore (pc' := 52) (L' := [some (rv 0), some (iv 0), some (iv law), some (iv top), some (rv 8), some (iv a), some (iv 0)]) dX10_breach_50 rfl (by decide) rfl ?_
    match n, hn, hI with
    | 0, hn, hI => omega
    | n + 1, hn, hI =>
      refine l_brB_8 ho law top hl ht (brA (fun a b => hdB σ 8 law top a b) top (top + 1).toNat 0) a ⟨by omega, by omega⟩ (fun hq => hI.trans (if_neg (fun z => by rw [z] at hq; exact absurd hq (by decide)))) (fun τ' y6 hb hF' => ?_) (top + 1).toNat 0 τ (by omega) (by omega) rfl hF
      refine e_iinc (pc' := 94) (L' := [some (rv 0), some (iv 0), some (iv law), some (iv top), some (rv 8), some (iv (a + 1)), y6]) dX10_breach_91 rfl rfl (by decide) rfl ?_
      refine e_goto (pc' := 43) dX10_breach_94 (by decide) ?_
      exact ih n (by omega) _ _ _ (by omega) (by omega) (hI.trans (if_pos hb)) hF'

set_option maxHeartbeats 4000000 in
set_option maxRecDepth 100000 in
theorem l_brB_11 {X : AX} {d : Nat} {σ : SG} (ho : ScOK σ 1) (law top : Int) (hl : 0 ≤ law ∧ law ≤ 3) (ht : 1 ≤ top ∧ top ≤ 12) (R0 a : Int) (ha : 0 ≤ a ∧ a ≤ top) (hR0 : 0 ≤ brB (fun a b => hdB σ 11 law top a b) a (top + 1).toNat 0 → R0 = brB (fun a b => hdB σ 11 law top a b) a (top + 1).toNat 0) (hK : ∀ (τ : SG) (y6 : Option AV), brB (fun a b => hdB σ 11 law top a b) a (top + 1).toNat 0 = -1 → Fr [37, 38] σ τ → Ev X 0 0 (d + 6) mX10_breach 91 [some (rv 0), some (iv 1), some (iv law), some (iv top), some (rv 11), some (iv a), y6] [] τ (QI (fun v σ' => v = R0 ∧ Fr [37, 38] σ σ'))) : ∀ (n : Nat) (b : Int) (τ : SG), 0 ≤ b → b + n = top + 1 → brB (fun a b => hdB σ 11 law top a b) a (top + 1).toNat 0 = brB (fun a b => hdB σ 11 law top a b) a n b → Fr [37, 38] σ τ → Ev X 0 0 (d + 6) mX10_breach 52 [some (rv 0), some (iv 1), some (iv law), some (iv top), some (rv 11), some (iv a), some (iv b)] [] τ (QI (fun v σ' => v = R0 ∧ Fr [37, 38] σ σ')) := by
  intro n
  induction n using Nat.strongRecOn with
  | ind n ih =>
  intro b τ hb0 hn hI hF
  have q0 : τ.1 11 = σ.1 11 := (hF 11 (by decide)).1
  have q2 : τ.1 13 = σ.1 13 := (hF 13 (by decide)).1
  have hrσ : RlOK σ 11 := by first | exact ho.2.2.2.2.2.2.2.2.2.2.2.1 | exact ho.2.2.2.2.2.2.2.2.2.2.2.2.1 | exact ho.2.2.2.2.2.2.2.2.2.2.2.2.2
  have hrτ : RlOK τ 11 := hrσ.fr q0 q2
  refine e_iload (pc' := 54) dX10_breach_52 rfl rfl ?_
  refine e_iload_n (pc' := 55) dX10_breach_54 rfl rfl ?_
  refine e_icmpI (pc' := 58) (t := 91) dX10_breach_55 (by decide) rfl ⟨by first | omega | (rw [hv]; unfold b2i; split <;> omega), by first | omega | (rw [hv]; unfold b2i; split <;> omega)⟩ ⟨by first | omega | (rw [hv]; unfold b2i; split <;> omega), by first | omega | (rw [hv]; unfold b2i; split <;> omega)⟩ (fun (c2_1 : top < (b : Int)) => ?_) (fun (c2_1 : ¬ (top < (b : Int))) => ?_)
  · match n, hn, hI with
    | 0, hn, hI => exact hK τ _ hI hF
    | n + 1, hn, hI => omega
  · refine e_aload_n (pc' := 59) dX10_breach_58 rfl rfl ?_
    refine e_getR (pc' := 62) dX10_breach_59 rfl f_10_85 h_0 rfl ?_
    refine e_aload (pc' := 64) dX10_breach_62 rfl rfl ?_
    refine e_iload_n (pc' := 65) dX10_breach_64 rfl rfl ?_
    refine e_iload_n (pc' := 66) dX10_breach_65 rfl rfl ?_
    refine e_iload (pc' := 68) dX10_breach_66 rfl rfl ?_
    refine e_iload (pc' := 70) dX10_breach_68 rfl rfl ?_
    refine e_cv5i (pc' := 73) dX10_breach_70 rfl k_10_229 h_55 rfl (Nat.le_of_ble_eq_true rfl) rfl rfl ⟨rfl, rfl⟩ ⟨Nat.zero_le _, Nat.zero_le _⟩ (s_hold_11 hrτ law top a b hl ht ⟨by omega, by omega⟩ ⟨by omega, by omega⟩) ?_
    rintro v τ2 ⟨hv, hG2⟩
    rw [hdB_fr q0 q2] at hv
    refine e_ifI (pc' := 76) (t := 85) dX10_breach_73 (by decide) rfl ⟨by first | omega | (rw [hv]; unfold b2i; split <;> omega), by first | omega | (rw [hv]; unfold b2i; split <;> omega)⟩ (fun (c4_2 : (v : Int) ≠ 0) => ?_) (fun (c4_2 : ¬ ((v : Int) ≠ 0)) => ?_)
    · have hb1 : hdB σ 11 law top a b = true := by cases hq : hdB σ 11 law top a b <;> first | rfl | (rw [hq] at hv; exact absurd hv c4_2)
      refine e_iinc (pc' := 88) (L' := [some (rv 0), some (iv 1), some (iv law), some (iv top), some (rv 11), some (iv a), some (iv (b + 1))]) dX10_breach_85 rfl rfl (by decide) rfl ?_
      refine e_goto (pc' := 52) dX10_breach_88 (by decide) ?_
      match n, hn, hI with
      | 0, hn, hI => omega
      | n + 1, hn, hI => exact ih n (by omega) _ _ (by omega) (by omega) (hI.trans (if_pos hb1)) (hF.tr hG2)
    · have hb1 : hdB σ 11 law top a b = false := by cases hq : hdB σ 11 law top a b <;> first | rfl | (rw [hq] at hv; exact absurd (by rw [hv]; decide) c4_2)
      refine e_bipush (pc' := 78) (z := 100) dX10_breach_76 rfl (by decide) ?_
      refine e_iload (pc' := 80) dX10_breach_78 rfl rfl ?_
      refine e_imul (pc' := 81) dX10_breach_80 rfl ?_
      refine e_iload (pc' := 83) dX10_breach_81 rfl rfl ?_
      refine e_iadd (pc' := 84) dX10_breach_83 rfl ?_
      exact e_iret dX10_breach_84 rfl ⟨rfl, Nat.le_refl _⟩ ⟨_, rfl, by match n, hn, hI with
    | 0, hn, hI => omega
    | n + 1, hn, hI =>
      have e := hI.trans (if_neg (show ¬ (hdB σ 11 law top a b = true) by rw [hb1]; decide))
      rw [hR0 (by rw [e]; omega), e], hF.tr hG2⟩

set_option maxHeartbeats 4000000 in
set_option maxRecDepth 100000 in
theorem l_brA_11 {X : AX} {d : Nat} {σ : SG} (ho : ScOK σ 1) (law top : Int) (hl : 0 ≤ law ∧ law ≤ 3) (ht : 1 ≤ top ∧ top ≤ 12) : ∀ (n : Nat) (a : Int) (τ : SG) (x6 : Option AV), 0 ≤ a → a + n = top + 1 → brA (fun a b => hdB σ 11 law top a b) top (top + 1).toNat 0 = brA (fun a b => hdB σ 11 law top a b) top n a → Fr [37, 38] σ τ → Ev X 0 0 (d + 6) mX10_breach 43 [some (rv 0), some (iv 1), some (iv law), some (iv top), some (rv 11), some (iv a), x6] [] τ (QI (fun v σ' => v = brA (fun a b => hdB σ 11 law top a b) top (top + 1).toNat 0 ∧ Fr [37, 38] σ σ')) := by
  intro n
  induction n using Nat.strongRecOn with
  | ind n ih =>
  intro a τ x6 ha0 hn hI hF
  refine e_iload (pc' := 45) dX10_breach_43 rfl rfl ?_
  refine e_iload_n (pc' := 46) dX10_breach_45 rfl rfl ?_
  refine e_icmpI (pc' := 49) (t := 97) dX10_breach_46 (by decide) rfl ⟨by omega, by omega⟩ ⟨by omega, by omega⟩ (fun (c2_1 : top < (a : Int)) => ?_) (fun (c2_1 : ¬ (top < (a : Int))) => ?_)
  · refine e_iconst (pc' := 98) dX10_breach_97 rfl ?_
    exact e_iret dX10_breach_98 rfl ⟨rfl, Nat.le_refl _⟩ ⟨_, rfl, by match n, hn, hI with
    | 0, hn, hI => exact hI.symm
    | n + 1, hn, hI => omega, hF⟩
  · refine e_iconst (pc' := 50) dX10_breach_49 rfl ?_
    refine e_istore (pc' := 52) (L' := [some (rv 0), some (iv 1), some (iv law), some (iv top), some (rv 11), some (iv a), some (iv 0)]) dX10_breach_50 rfl (by decide) rfl ?_
    match n, hn, hI with
    | 0, hn, hI => omega
    | n + 1, hn, hI =>
      refine l_brB_11 ho law top hl ht (brA (fun a b => hdB σ 11 law top a b) top (top + 1).toNat 0) a ⟨by omega, by omega⟩ (fun hq => hI.trans (if_neg (fun z => by rw [z] at hq; exact absurd hq (by decide)))) (fun τ' y6 hb hF' => ?_) (top + 1).toNat 0 τ (by omega) (by omega) rfl hF
      refine e_iinc (pc' := 94) (L' := [some (rv 0), some (iv 1), some (iv law), some (iv top), some (rv 11), some (iv (a + 1)), y6]) dX10_breach_91 rfl rfl (by decide) rfl ?_
      refine e_goto (pc' := 43) dX10_breach_94 (by decide) ?_
      exact ih n (by omega) _ _ _ (by omega) (by omega) (hI.trans (if_pos hb)) hF'

set_option maxHeartbeats 4000000 in
set_option maxRecDepth 100000 in
theorem l_brB_14 {X : AX} {d : Nat} {σ : SG} (ho : ScOK σ 1) (law top : Int) (hl : 0 ≤ law ∧ law ≤ 3) (ht : 1 ≤ top ∧ top ≤ 12) (R0 a : Int) (ha : 0 ≤ a ∧ a ≤ top) (hR0 : 0 ≤ brB (fun a b => hdB σ 14 law top a b) a (top + 1).toNat 0 → R0 = brB (fun a b => hdB σ 14 law top a b) a (top + 1).toNat 0) (hK : ∀ (τ : SG) (y6 : Option AV), brB (fun a b => hdB σ 14 law top a b) a (top + 1).toNat 0 = -1 → Fr [37, 38] σ τ → Ev X 0 0 (d + 6) mX10_breach 91 [some (rv 0), some (iv 2), some (iv law), some (iv top), some (rv 14), some (iv a), y6] [] τ (QI (fun v σ' => v = R0 ∧ Fr [37, 38] σ σ'))) : ∀ (n : Nat) (b : Int) (τ : SG), 0 ≤ b → b + n = top + 1 → brB (fun a b => hdB σ 14 law top a b) a (top + 1).toNat 0 = brB (fun a b => hdB σ 14 law top a b) a n b → Fr [37, 38] σ τ → Ev X 0 0 (d + 6) mX10_breach 52 [some (rv 0), some (iv 2), some (iv law), some (iv top), some (rv 14), some (iv a), some (iv b)] [] τ (QI (fun v σ' => v = R0 ∧ Fr [37, 38] σ σ')) := by
  intro n
  induction n using Nat.strongRecOn with
  | ind n ih =>
  intro b τ hb0 hn hI hF
  have q0 : τ.1 14 = σ.1 14 := (hF 14 (by decide)).1
  have q2 : τ.1 16 = σ.1 16 := (hF 16 (by decide)).1
  have hrσ : RlOK σ 14 := by first | exact ho.2.2.2.2.2.2.2.2.2.2.2.1 | exact ho.2.2.2.2.2.2.2.2.2.2.2.2.1 | exact ho.2.2.2.2.2.2.2.2.2.2.2.2.2
  have hrτ : RlOK τ 14 := hrσ.fr q0 q2
  refine e_iload (pc' := 54) dX10_breach_52 rfl rfl ?_
  refine e_iload_n (pc' := 55) dX10_breach_54 rfl rfl ?_
  refine e_icmpI (pc' := 58) (t := 91) dX10_breach_55 (by decide) rfl ⟨by first | omega | (rw [hv]; unfold b2i; split <;> omega), by first | omega | (rw [hv]; unfold b2i; split <;> omega)⟩ ⟨by first | omega | (rw [hv]; unfold b2i; split <;> omega), by first | omega | (rw [hv]; unfold b2i; split <;> omega)⟩ (fun (c2_1 : top < (b : Int)) => ?_) (fun (c2_1 : ¬ (top < (b : Int))) => ?_)
  · match n, hn, hI with
    | 0, hn, hI => exact hK τ _ hI hF
    | n + 1, hn, hI => omega
  · refine e_aload_n (pc' := 59) dX10_breach_58 rfl rfl ?_
    refine e_getR (pc' := 62) dX10_breach_59 rfl f_10_85 h_0 rfl ?_
    refine e_aload (pc' := 64) dX10_breach_62 rfl rfl ?_
    refine e_iload_n (pc' := 65) dX10_breach_64 rfl rfl ?_
    refine e_iload_n (pc' := 66) dX10_breach_65 rfl rfl ?_
    refine e_iload (pc' := 68) dX10_breach_66 rfl rfl ?_
    refine e_iload (pc' := 70) dX10_breach_68 rfl rfl ?_
    refine e_cv5i (pc' := 73) dX10_breach_70 rfl k_10_229 h_55 rfl (Nat.le_of_ble_eq_true rfl) rfl rfl ⟨rfl, rfl⟩ ⟨Nat.zero_le _, Nat.zero_le _⟩ (s_hold_14 hrτ law top a b hl ht ⟨by omega, by omega⟩ ⟨by omega, by omega⟩) ?_
    rintro v τ2 ⟨hv, hG2⟩
    rw [hdB_fr q0 q2] at hv
    refine e_ifI (pc' := 76) (t := 85) dX10_breach_73 (by decide) rfl ⟨by first | omega | (rw [hv]; unfold b2i; split <;> omega), by first | omega | (rw [hv]; unfold b2i; split <;> omega)⟩ (fun (c4_2 : (v : Int) ≠ 0) => ?_) (fun (c4_2 : ¬ ((v : Int) ≠ 0)) => ?_)
    · have hb1 : hdB σ 14 law top a b = true := by cases hq : hdB σ 14 law top a b <;> first | rfl | (rw [hq] at hv; exact absurd hv c4_2)
      refine e_iinc (pc' := 88) (L' := [some (rv 0), some (iv 2), some (iv law), some (iv top), some (rv 14), some (iv a), some (iv (b + 1))]) dX10_breach_85 rfl rfl (by decide) rfl ?_
      refine e_goto (pc' := 52) dX10_breach_88 (by decide) ?_
      match n, hn, hI with
      | 0, hn, hI => omega
      | n + 1, hn, hI => exact ih n (by omega) _ _ (by omega) (by omega) (hI.trans (if_pos hb1)) (hF.tr hG2)
    · have hb1 : hdB σ 14 law top a b = false := by cases hq : hdB σ 14 law top a b <;> first | rfl | (rw [hq] at hv; exact absurd (by rw [hv]; decide) c4_2)
      refine e_bipush (pc' := 78) (z := 100) dX10_breach_76 rfl (by decide) ?_
      refine e_iload (pc' := 80) dX10_breach_78 rfl rfl ?_
      refine e_imul (pc' := 81) dX10_breach_80 rfl ?_
      refine e_iload (pc' := 83) dX10_breach_81 rfl rfl ?_
      refine e_iadd (pc' := 84) dX10_breach_83 rfl ?_
      exact e_iret dX10_breach_84 rfl ⟨rfl, Nat.le_refl _⟩ ⟨_, rfl, by match n, hn, hI with
    | 0, hn, hI => omega
    | n + 1, hn, hI =>
      have e := hI.trans (if_neg (show ¬ (hdB σ 14 law top a b = true) by rw [hb1]; decide))
      rw [hR0 (by rw [e]; omega), e], hF.tr hG2⟩

set_option maxHeartbeats 4000000 in
set_option maxRecDepth 100000 in
theorem l_brA_14 {X : AX} {d : Nat} {σ : SG} (ho : ScOK σ 1) (law top : Int) (hl : 0 ≤ law ∧ law ≤ 3) (ht : 1 ≤ top ∧ top ≤ 12) : ∀ (n : Nat) (a : Int) (τ : SG) (x6 : Option AV), 0 ≤ a → a + n = top + 1 → brA (fun a b => hdB σ 14 law top a b) top (top + 1).toNat 0 = brA (fun a b => hdB σ 14 law top a b) top n a → Fr [37, 38] σ τ → Ev X 0 0 (d + 6) mX10_breach 43 [some (rv 0), some (iv 2), some (iv law), some (iv top), some (rv 14), some (iv a), x6] [] τ (QI (fun v σ' => v = brA (fun a b => hdB σ 14 law top a b) top (top + 1).toNat 0 ∧ Fr [37, 38] σ σ')) := by
  intro n
  induction n using Nat.strongRecOn with
  | ind n ih =>
  intro a τ x6 ha0 hn hI hF
  refine e_iload (pc' := 45) dX10_breach_43 rfl rfl ?_
  refine e_iload_n (pc' := 46) dX10_breach_45 rfl rfl ?_
  refine e_icmpI (pc' := 49) (t := 97) dX10_breach_46 (by decide) rfl ⟨by omega, by omega⟩ ⟨by omega, by omega⟩ (fun (c2_1 : top < (a : Int)) => ?_) (fun (c2_1 : ¬ (top < (a : Int))) => ?_)
  · refine e_iconst (pc' := 98) dX10_breach_97 rfl ?_
    exact e_iret dX10_breach_98 rfl ⟨rfl, Nat.le_refl _⟩ ⟨_, rfl, by match n, hn, hI with
    | 0, hn, hI => exact hI.symm
    | n + 1, hn, hI => omega, hF⟩
  · refine e_iconst (pc' := 50) dX10_breach_49 rfl ?_
    refine e_istore (pc' := 52) (L' := [some (rv 0), some (iv 2), some (iv law), some (iv top), some (rv 14), some (iv a), some (iv 0)]) dX10_breach_50 rfl (by decide) rfl ?_
    match n, hn, hI with
    | 0, hn, hI => omega
    | n + 1, hn, hI =>
      refine l_brB_14 ho law top hl ht (brA (fun a b => hdB σ 14 law top a b) top (top + 1).toNat 0) a ⟨by omega, by omega⟩ (fun hq => hI.trans (if_neg (fun z => by rw [z] at hq; exact absurd hq (by decide)))) (fun τ' y6 hb hF' => ?_) (top + 1).toNat 0 τ (by omega) (by omega) rfl hF
      refine e_iinc (pc' := 94) (L' := [some (rv 0), some (iv 2), some (iv law), some (iv top), some (rv 14), some (iv (a + 1)), y6]) dX10_breach_91 rfl rfl (by decide) rfl ?_
      refine e_goto (pc' := 43) dX10_breach_94 (by decide) ?_
      exact ih n (by omega) _ _ _ (by omega) (by omega) (hI.trans (if_pos hb)) hF'
