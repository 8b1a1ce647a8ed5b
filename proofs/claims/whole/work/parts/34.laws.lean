def b2i (b : Bool) : Int := if b then 1 else 0
/-- what a rule tells of three gifts -/
def addS (σ : SG) (r : Nat) (x y z : Int) : Int := tlS (seeS (seeS (seeS st0 x) y) z) (σ.1 r 4) (σ.1 (r + 2)) (σ.1 r 3)
theorem addS_rg (σ : SG) (r : Nat) (x y z : Int) : 0 ≤ addS σ r x y z ∧ addS σ r x y z ≤ 99 := tlS_rg _ _ _ _
theorem addS_fr {σ τ : SG} {r : Nat} (h0 : τ.1 r = σ.1 r) (h2 : τ.1 (r + 2) = σ.1 (r + 2)) (x y z : Int) : addS τ r x y z = addS σ r x y z := by
  unfold addS
  rw [h0, h2]
theorem RlOK.fr {σ τ : SG} {r : Nat} (h : RlOK σ r) (h0 : τ.1 r = σ.1 r) (h2 : τ.1 (r + 2) = σ.1 (r + 2)) : RlOK τ r := by
  unfold RlOK at *
  rw [h0, h2]
  exact h
theorem st0_ok : stOK st0 := ⟨by decide, by decide, by decide, by decide⟩
theorem see3_R (x y z : Int) : stR (seeS (seeS (seeS st0 x) y) z) := by
  have h0 : 0 ≤ st0.1 ∧ st0.1 ≤ 12 * 0 ∧ 0 ≤ st0.2.1 ∧ st0.2.1 ≤ 0 := by decide
  have h1 := seeS_rg (seeS_rg (seeS_rg h0 x) y) z
  have h2 := seeS_ok (seeS_ok (seeS_ok st0_ok x) y) z
  exact ⟨⟨by omega, by omega⟩, ⟨by omega, by omega⟩, ⟨by have := h2.1; omega, by have := h2.2.1; omega⟩, ⟨by have := h2.2.2.1; omega, by have := h2.2.2.2; omega⟩⟩
/-- parts 1 .. n of a gift: none adds more -/
def nmB (f : Int → Int) (ad : Int) : Nat → Bool
  | 0 => true
  | n + 1 => nmB f ad n && decide (f ((n : Int) + 1) ≤ ad)
theorem nmB_f {f : Int → Int} {ad : Int} {n m : Nat} (h : nmB f ad n = false) (hm : n ≤ m) : nmB f ad m = false := by
  induction m with
  | zero => have : n = 0 := by omega
            rw [← this]; exact h
  | succ m ih =>
    by_cases hq : n = m + 1
    · rw [← hq]; exact h
    · show (nmB f ad m && _) = false
      rw [ih (by omega)]; rfl
def nmI (f : Int → Int) (ad i : Int) : Bool := nmB f ad (i - 1).toNat
theorem nmI_s (f : Int → Int) (ad : Int) {i : Int} (h : 1 ≤ i) : nmI f ad (i + 1) = (nmI f ad i && decide (f i ≤ ad)) := by
  unfold nmI
  have e1 : (i + 1 - 1).toNat = (i - 1).toNat + 1 := by omega
  rw [e1]
  show (nmB f ad (i - 1).toNat && decide (f (((i - 1).toNat : Int) + 1) ≤ ad)) = _
  rw [show (((i - 1).toNat : Int) + 1) = i by omega]
theorem nmI_f {f : Int → Int} {ad i j : Int} (h : nmI f ad i = false) (hj : i ≤ j) : nmI f ad j = false := nmB_f h (by omega)
def hdB (σ : SG) (r : Nat) (law top a b : Int) : Bool := if law = 0 then decide (a = top ∨ addS σ r a b 0 ≤ 1 + addS σ r (a + 1) b 0) else if law = 1 then nmI (fun p => addS σ r p b (a - p)) (addS σ r a b 0) a else if law = 2 then decide (addS σ r a b 0 ≤ a + b) else decide (a = 0 ∨ b = 0 ∨ 0 < addS σ r a b 0)

set_option maxHeartbeats 4000000 in
set_option maxRecDepth 100000 in
theorem s_addedTo_8 {X : AX} {d : Nat} {σ : SG} (hr : RlOK σ 8) (x y z : Int) (hx : rg x) (hy : rg y) (hz : rg z) : Ev X 0 0 (d + 3) mX2_addedTo 0 [some (rv 55), some (rv 8), some (iv x), some (iv y), some (iv z)] [] σ (QI (fun v σ' => v = addS σ 8 x y z ∧ Fr [37, 38] σ σ')) := by
  obtain ⟨hx1, hx2⟩ := hx
  obtain ⟨hy1, hy2⟩ := hy
  obtain ⟨hz1, hz2⟩ := hz
  refine e_aload_n (pc' := 1) dX2_addedTo_0 rfl rfl ?_
  refine e_getR (pc' := 4) dX2_addedTo_1 rfl f_2_7 h_55 rfl ?_
  refine e_cv0v (pc' := 7) dX2_addedTo_4 rfl k_2_21 h_37 rfl (Nat.le_of_ble_eq_true rfl) rfl rfl ⟨rfl, rfl⟩ ⟨Nat.zero_le _, Nat.zero_le _⟩ s_clear ?_
  rintro τ0 ⟨hS0, hG0⟩
  refine e_aload_n (pc' := 8) dX2_addedTo_7 rfl rfl ?_
  refine e_getR (pc' := 11) dX2_addedTo_8 rfl f_2_7 h_55 rfl ?_
  refine e_iload_n (pc' := 12) dX2_addedTo_11 rfl rfl ?_
  refine e_cv1v (pc' := 15) dX2_addedTo_12 rfl k_2_26 h_37 rfl (Nat.le_of_ble_eq_true rfl) rfl rfl ⟨rfl, rfl⟩ ⟨Nat.zero_le _, Nat.zero_le _⟩ (s_see st0 x hS0 st0_ok ⟨by omega, by omega⟩) ?_
  rintro τ1 ⟨hS1, hG1⟩
  refine e_aload_n (pc' := 16) dX2_addedTo_15 rfl rfl ?_
  refine e_getR (pc' := 19) dX2_addedTo_16 rfl f_2_7 h_55 rfl ?_
  refine e_iload_n (pc' := 20) dX2_addedTo_19 rfl rfl ?_
  refine e_cv1v (pc' := 23) dX2_addedTo_20 rfl k_2_26 h_37 rfl (Nat.le_of_ble_eq_true rfl) rfl rfl ⟨rfl, rfl⟩ ⟨Nat.zero_le _, Nat.zero_le _⟩ (s_see (seeS st0 x) y hS1 (seeS_ok st0_ok _) ⟨by omega, by omega⟩) ?_
  rintro τ2 ⟨hS2, hG2⟩
  refine e_aload_n (pc' := 24) dX2_addedTo_23 rfl rfl ?_
  refine e_getR (pc' := 27) dX2_addedTo_24 rfl f_2_7 h_55 rfl ?_
  refine e_iload (pc' := 29) dX2_addedTo_27 rfl rfl ?_
  refine e_cv1v (pc' := 32) dX2_addedTo_29 rfl k_2_26 h_37 rfl (Nat.le_of_ble_eq_true rfl) rfl rfl ⟨rfl, rfl⟩ ⟨Nat.zero_le _, Nat.zero_le _⟩ (s_see (seeS (seeS st0 x) y) z hS2 (seeS_ok (seeS_ok st0_ok _) _) ⟨by omega, by omega⟩) ?_
  rintro τ3 ⟨hS3, hG3⟩
  refine e_aload_n (pc' := 33) dX2_addedTo_32 rfl rfl ?_
  refine e_getR (pc' := 36) dX2_addedTo_33 rfl f_2_7 h_55 rfl ?_
  refine e_aload_n (pc' := 37) dX2_addedTo_36 rfl rfl ?_
  have hG : Fr [37] σ τ3 := hG0.tr (hG1.tr (hG2.tr hG3))
  have q0 : τ3.1 8 = σ.1 8 := (hG 8 (by decide)).1
  have q2 : τ3.1 10 = σ.1 10 := (hG 10 (by decide)).1
  have hr3 : RlOK τ3 8 := hr.fr q0 q2
  have hR := see3_R x y z
  refine e_cv1i (pc' := 40) dX2_addedTo_37 rfl k_2_30 h_37 rfl (Nat.le_of_ble_eq_true rfl) rfl rfl ⟨rfl, rfl⟩ ⟨Nat.zero_le _, Nat.zero_le _⟩ (s_toldBy_8 (seeS (seeS (seeS st0 x) y) z) hS3 hR.1 hR.2.1 hR.2.2.1 hR.2.2.2 hr3.1 hr3.2.1 hr3.2.2) ?_
  rintro v4 τ4 ⟨hv4, hG4⟩
  exact e_iret dX2_addedTo_40 rfl ⟨rfl, Nat.le_refl _⟩ ⟨_, rfl, by rw [hv4, q0, q2]; rfl, (hG.mono (by decide)).tr hG4⟩

set_option maxHeartbeats 4000000 in
set_option maxRecDepth 100000 in
theorem l_none_8 {X : AX} {d : Nat} {σ : SG} (hr : RlOK σ 8) (a b ad : Int) (ha : 0 ≤ a ∧ a ≤ 12) (hb : 0 ≤ b ∧ b ≤ 12) (hd : 0 ≤ ad ∧ ad ≤ 99) : ∀ (k : Nat) (i : Int) (τ : SG), 1 ≤ i → (i ≤ a ∨ i = 1) → 14 - i < k → nmI (fun p => addS σ 8 p b (a - p)) ad i = true → Fr [37, 38] σ τ → Ev X 0 0 (d + 4) mX2_noneMoreByHands 3 [some (rv 55), some (rv 8), some (iv a), some (iv b), some (iv ad), some (iv i)] [] τ (QI (fun v σ' => v = b2i (nmI (fun p => addS σ 8 p b (a - p)) ad a) ∧ Fr [37, 38] σ σ')) := by
  intro k
  induction k with
  | zero => intros; omega
  | succ k ih =>
  intro i τ hi0 hi1 hik hI hF
  have q0 : τ.1 8 = σ.1 8 := (hF 8 (by decide)).1
  have q2 : τ.1 10 = σ.1 10 := (hF 10 (by decide)).1
  have hrτ : RlOK τ 8 := hr.fr q0 q2
  refine e_iload (pc' := 5) dX2_noneMoreByHands_3 rfl rfl ?_
  refine e_iload_n (pc' := 6) dX2_noneMoreByHands_5 rfl rfl ?_
  refine e_icmpI (pc' := 9) (t := 34) dX2_noneMoreByHands_6 (by decide) rfl ⟨by omega, by omega⟩ ⟨by omega, by omega⟩ (fun (c2_1 : a ≤ (i : Int)) => ?_) (fun (c2_1 : ¬ (a ≤ (i : Int))) => ?_)
  · refine e_iconst (pc' := 35) dX2_noneMoreByHands_34 rfl ?_
    exact e_zret dX2_noneMoreByHands_35 rfl (by decide) ⟨rfl, Nat.le_refl _⟩ ⟨_, rfl, by rw [show nmI (fun p => addS σ 8 p b (a - p)) ad a = true from (show nmI (fun p => addS σ 8 p b (a - p)) ad a = nmI (fun p => addS σ 8 p b (a - p)) ad i by unfold nmI; rw [show (a - 1).toNat = (i - 1).toNat by omega]).trans hI]; rfl, hF⟩
  · refine e_aload_n (pc' := 10) dX2_noneMoreByHands_9 rfl rfl ?_
    refine e_aload_n (pc' := 11) dX2_noneMoreByHands_10 rfl rfl ?_
    refine e_iload (pc' := 13) dX2_noneMoreByHands_11 rfl rfl ?_
    refine e_iload_n (pc' := 14) dX2_noneMoreByHands_13 rfl rfl ?_
    refine e_iload_n (pc' := 15) dX2_noneMoreByHands_14 rfl rfl ?_
    refine e_iload (pc' := 17) dX2_noneMoreByHands_15 rfl rfl ?_
    refine e_isub (pc' := 18) dX2_noneMoreByHands_17 rfl ?_
    refine e_cv4i (pc' := 21) dX2_noneMoreByHands_18 rfl k_2_13 h_55 rfl (Nat.le_of_ble_eq_true rfl) rfl rfl ⟨rfl, rfl⟩ ⟨Nat.zero_le _, Nat.zero_le _⟩ (s_addedTo_8 hrτ i b (a - i) ⟨by omega, by omega⟩ ⟨by omega, by omega⟩ ⟨by omega, by omega⟩) ?_
    rintro v2 τ2 ⟨hv2, hG2⟩
    rw [addS_fr q0 q2] at hv2
    have hvr := addS_rg σ 8 i b (a - i)
    refine e_iload (pc' := 23) dX2_noneMoreByHands_21 rfl rfl ?_
    refine e_icmpI (pc' := 26) (t := 28) dX2_noneMoreByHands_23 (by decide) rfl ⟨by omega, by omega⟩ ⟨by omega, by omega⟩ (fun (c4_2 : (v2 : Int) ≤ ad) => ?_) (fun (c4_2 : ¬ ((v2 : Int) ≤ ad)) => ?_)
    · refine e_iinc (pc' := 31) (L' := [some (rv 55), some (rv 8), some (iv a), some (iv b), some (iv ad), some (iv (i + 1))]) dX2_noneMoreByHands_28 rfl rfl (by decide) rfl ?_
      refine e_goto (pc' := 3) dX2_noneMoreByHands_31 (by decide) ?_
      exact ih _ _ (by omega) (by omega) (by omega) (by rw [nmI_s _ _ (by omega), hI, show decide (_ ≤ ad) = true from decide_eq_true (show addS σ 8 i b (a - i) ≤ ad by omega)]; rfl) (hF.tr hG2)
    · refine e_iconst (pc' := 27) dX2_noneMoreByHands_26 rfl ?_
      exact e_zret dX2_noneMoreByHands_27 rfl (by decide) ⟨rfl, Nat.le_refl _⟩ ⟨_, rfl, by rw [nmI_f (i := i + 1) (by rw [nmI_s _ _ (by omega), show decide (_ ≤ ad) = false from decide_eq_false (show ¬ addS σ 8 i b (a - i) ≤ ad by omega), Bool.and_false]) (by omega)]; rfl, hF.tr hG2⟩

set_option maxHeartbeats 4000000 in
set_option maxRecDepth 100000 in
theorem s_none_8 {X : AX} {d : Nat} {σ : SG} (hr : RlOK σ 8) (a b ad : Int) (ha : 0 ≤ a ∧ a ≤ 12) (hb : 0 ≤ b ∧ b ≤ 12) (hd : 0 ≤ ad ∧ ad ≤ 99) : Ev X 0 0 (d + 4) mX2_noneMoreByHands 0 [some (rv 55), some (rv 8), some (iv a), some (iv b), some (iv ad), none] [] σ (QI (fun v σ' => v = b2i (nmI (fun p => addS σ 8 p b (a - p)) ad a) ∧ Fr [37, 38] σ σ')) := by
  refine e_iconst (pc' := 1) dX2_noneMoreByHands_0 rfl ?_
  refine e_istore (pc' := 3) (L' := [some (rv 55), some (rv 8), some (iv a), some (iv b), some (iv ad), some (iv 1)]) dX2_noneMoreByHands_1 rfl (by decide) rfl ?_
  exact l_none_8 hr a b ad ha hb hd 15 _ _ (by omega) (by omega) (by omega) rfl Fr.rf

set_option maxHeartbeats 4000000 in
set_option maxRecDepth 100000 in
theorem s_hold_8 {X : AX} {d : Nat} {σ : SG} (hr : RlOK σ 8) (law top a b : Int) (hl : 0 ≤ law ∧ law ≤ 3) (ht : 1 ≤ top ∧ top ≤ 12) (ha : 0 ≤ a ∧ a ≤ top) (hb : 0 ≤ b ∧ b ≤ top) : Ev X 0 0 (d + 5) mX2_hold 0 [some (rv 55), some (rv 8), some (iv law), some (iv top), some (iv a), some (iv b), none] [] σ (QI (fun v σ' => v = b2i (hdB σ 8 law top a b) ∧ Fr [37, 38] σ σ')) := by
  refine e_aload_n (pc' := 1) dX2_hold_0 rfl rfl ?_
  refine e_aload_n (pc' := 2) dX2_hold_1 rfl rfl ?_
  refine e_iload (pc' := 4) dX2_hold_2 rfl rfl ?_
  refine e_iload (pc' := 6) dX2_hold_4 rfl rfl ?_
  refine e_iconst (pc' := 7) dX2_hold_6 rfl ?_
  refine e_cv4i (pc' := 10) dX2_hold_7 rfl k_2_13 h_55 rfl (Nat.le_of_ble_eq_true rfl) rfl rfl ⟨rfl, rfl⟩ ⟨Nat.zero_le _, Nat.zero_le _⟩ (s_addedTo_8 hr a b 0 ⟨by omega, by omega⟩ ⟨by omega, by omega⟩ ⟨by omega, by omega⟩) ?_
  rintro v1 τ1 ⟨hv1, hG1⟩
  have hvr := addS_rg σ 8 a b 0
  have q0 : τ1.1 8 = σ.1 8 := (hG1 8 (by decide)).1
  have q2 : τ1.1 10 = σ.1 10 := (hG1 10 (by decide)).1
  have hrτ : RlOK τ1 8 := hr.fr q0 q2
  refine e_istore (pc' := 12) (L' := [some (rv 55), some (rv 8), some (iv law), some (iv top), some (iv a), some (iv b), some (iv v1)]) dX2_hold_10 rfl (by decide) rfl ?_
  refine e_iload_n (pc' := 13) dX2_hold_12 rfl rfl ?_
  by_cases k2_1 : law = 0
  · refine e_table (pc' := 40) (off := 27) dX2_hold_13 ⟨by omega, by omega⟩  (by rw [k2_1]; rfl) (by decide) ?_
    refine e_iload (pc' := 42) dX2_hold_40 rfl rfl ?_
    refine e_iload_n (pc' := 43) dX2_hold_42 rfl rfl ?_
    refine e_icmpI (pc' := 46) (t := 65) dX2_hold_43 (by decide) rfl ⟨by omega, by omega⟩ ⟨by omega, by omega⟩ (fun (c4_2 : (a : Int) = top) => ?_) (fun (c4_2 : ¬ ((a : Int) = top)) => ?_)
    · refine e_iconst (pc' := 66) dX2_hold_65 rfl ?_
      refine e_goto (pc' := 70) dX2_hold_66 (by decide) ?_
      exact e_zret dX2_hold_70 rfl (by decide) ⟨rfl, Nat.le_refl _⟩ ⟨_, rfl, by unfold hdB b2i; (first | (rw [if_pos (show law = 0 by omega)]) | (rw [if_neg (show ¬ law = 0 by omega), if_neg (show ¬ law = 1 by omega), if_pos (show law = 2 by omega)]) | (rw [if_neg (show ¬ law = 0 by omega), if_neg (show ¬ law = 1 by omega), if_neg (show ¬ law = 2 by omega)])); first | (rw [if_pos (decide_eq_true (by omega))]) | (rw [if_neg (fun q => absurd (of_decide_eq_true q) (by omega))]), hG1⟩
    · refine e_iconst (pc' := 47) dX2_hold_46 rfl ?_
      refine e_aload_n (pc' := 48) dX2_hold_47 rfl rfl ?_
      refine e_aload_n (pc' := 49) dX2_hold_48 rfl rfl ?_
      refine e_iload (pc' := 51) dX2_hold_49 rfl rfl ?_
      refine e_iconst (pc' := 52) dX2_hold_51 rfl ?_
      refine e_iadd (pc' := 53) dX2_hold_52 rfl ?_
      refine e_iload (pc' := 55) dX2_hold_53 rfl rfl ?_
      refine e_iconst (pc' := 56) dX2_hold_55 rfl ?_
      refine e_cv4i (pc' := 59) dX2_hold_56 rfl k_2_13 h_55 rfl (Nat.le_of_ble_eq_true rfl) rfl rfl ⟨rfl, rfl⟩ ⟨Nat.zero_le _, Nat.zero_le _⟩ (s_addedTo_8 hrτ (a + 1) b 0 ⟨by omega, by omega⟩ ⟨by omega, by omega⟩ ⟨by omega, by omega⟩) ?_
      rintro v2 τ2 ⟨hv2, hG2⟩
      rw [addS_fr q0 q2] at hv2
      have hvr2 := addS_rg σ 8 (a + 1) b 0
      refine e_iadd (pc' := 60) dX2_hold_59 rfl ?_
      refine e_iload (pc' := 62) dX2_hold_60 rfl rfl ?_
      refine e_icmpI (pc' := 65) (t := 69) dX2_hold_62 (by decide) rfl ⟨by omega, by omega⟩ ⟨by omega, by omega⟩ (fun (c6_3 : ((1 + v2) : Int) < v1) => ?_) (fun (c6_3 : ¬ (((1 + v2) : Int) < v1)) => ?_)
      · refine e_iconst (pc' := 70) dX2_hold_69 rfl ?_
        exact e_zret dX2_hold_70 rfl (by decide) ⟨rfl, Nat.le_refl _⟩ ⟨_, rfl, by unfold hdB b2i; (first | (rw [if_pos (show law = 0 by omega)]) | (rw [if_neg (show ¬ law = 0 by omega), if_neg (show ¬ law = 1 by omega), if_pos (show law = 2 by omega)]) | (rw [if_neg (show ¬ law = 0 by omega), if_neg (show ¬ law = 1 by omega), if_neg (show ¬ law = 2 by omega)])); first | (rw [if_pos (decide_eq_true (by omega))]) | (rw [if_neg (fun q => absurd (of_decide_eq_true q) (by omega))]), hG1.tr hG2⟩
      · refine e_iconst (pc' := 66) dX2_hold_65 rfl ?_
        refine e_goto (pc' := 70) dX2_hold_66 (by decide) ?_
        exact e_zret dX2_hold_70 rfl (by decide) ⟨rfl, Nat.le_refl _⟩ ⟨_, rfl, by unfold hdB b2i; (first | (rw [if_pos (show law = 0 by omega)]) | (rw [if_neg (show ¬ law = 0 by omega), if_neg (show ¬ law = 1 by omega), if_pos (show law = 2 by omega)]) | (rw [if_neg (show ¬ law = 0 by omega), if_neg (show ¬ law = 1 by omega), if_neg (show ¬ law = 2 by omega)])); first | (rw [if_pos (decide_eq_true (by omega))]) | (rw [if_neg (fun q => absurd (of_decide_eq_true q) (by omega))]), hG1.tr hG2⟩
  by_cases k2_2 : law = 1
  · refine e_table (pc' := 71) (off := 58) dX2_hold_13 ⟨by omega, by omega⟩  (by rw [k2_2]; rfl) (by decide) ?_
    refine e_aload_n (pc' := 72) dX2_hold_71 rfl rfl ?_
    refine e_aload_n (pc' := 73) dX2_hold_72 rfl rfl ?_
    refine e_iload (pc' := 75) dX2_hold_73 rfl rfl ?_
    refine e_iload (pc' := 77) dX2_hold_75 rfl rfl ?_
    refine e_iload (pc' := 79) dX2_hold_77 rfl rfl ?_
    refine e_cv4i (pc' := 82) dX2_hold_79 rfl k_2_17 h_55 rfl (Nat.le_of_ble_eq_true rfl) rfl rfl ⟨rfl, rfl⟩ ⟨Nat.zero_le _, Nat.zero_le _⟩ (s_none_8 hrτ a b v1 ⟨by omega, by omega⟩ ⟨by omega, by omega⟩ (by omega)) ?_
    rintro v3 τ3 ⟨hv3, hG3⟩
    exact e_zret dX2_hold_82 rfl (by rw [hv3]; unfold b2i; split <;> simp) ⟨rfl, Nat.le_refl _⟩ ⟨_, rfl, by rw [hv3]; unfold hdB; rw [if_neg (by omega), if_pos (by omega), ← hv1]; congr 1; congr 1; funext p; exact addS_fr q0 q2 _ _ _, hG1.tr hG3⟩
  by_cases k2_3 : law = 2
  · refine e_table (pc' := 83) (off := 70) dX2_hold_13 ⟨by omega, by omega⟩  (by rw [k2_3]; rfl) (by decide) ?_
    refine e_iload (pc' := 85) dX2_hold_83 rfl rfl ?_
    refine e_iload (pc' := 87) dX2_hold_85 rfl rfl ?_
    refine e_iload (pc' := 89) dX2_hold_87 rfl rfl ?_
    refine e_iadd (pc' := 90) dX2_hold_89 rfl ?_
    refine e_icmpI (pc' := 93) (t := 97) dX2_hold_90 (by decide) rfl ⟨by omega, by omega⟩ ⟨by omega, by omega⟩ (fun (c4_4 : (a + b) < (v1 : Int)) => ?_) (fun (c4_4 : ¬ ((a + b) < (v1 : Int))) => ?_)
    · refine e_iconst (pc' := 98) dX2_hold_97 rfl ?_
      exact e_zret dX2_hold_98 rfl (by decide) ⟨rfl, Nat.le_refl _⟩ ⟨_, rfl, by unfold hdB b2i; (first | (rw [if_pos (show law = 0 by omega)]) | (rw [if_neg (show ¬ law = 0 by omega), if_neg (show ¬ law = 1 by omega), if_pos (show law = 2 by omega)]) | (rw [if_neg (show ¬ law = 0 by omega), if_neg (show ¬ law = 1 by omega), if_neg (show ¬ law = 2 by omega)])); first | (rw [if_pos (decide_eq_true (by omega))]) | (rw [if_neg (fun q => absurd (of_decide_eq_true q) (by omega))]), hG1⟩
    · refine e_iconst (pc' := 94) dX2_hold_93 rfl ?_
      refine e_goto (pc' := 98) dX2_hold_94 (by decide) ?_
      exact e_zret dX2_hold_98 rfl (by decide) ⟨rfl, Nat.le_refl _⟩ ⟨_, rfl, by unfold hdB b2i; (first | (rw [if_pos (show law = 0 by omega)]) | (rw [if_neg (show ¬ law = 0 by omega), if_neg (show ¬ law = 1 by omega), if_pos (show law = 2 by omega)]) | (rw [if_neg (show ¬ law = 0 by omega), if_neg (show ¬ law = 1 by omega), if_neg (show ¬ law = 2 by omega)])); first | (rw [if_pos (decide_eq_true (by omega))]) | (rw [if_neg (fun q => absurd (of_decide_eq_true q) (by omega))]), hG1⟩
  refine e_table (pc' := 99) (off := 86) dX2_hold_13 ⟨by omega, by omega⟩  (by rw [if_pos (by omega)]) (by decide) ?_
  refine e_iload (pc' := 101) dX2_hold_99 rfl rfl ?_
  refine e_ifI (pc' := 104) (t := 114) dX2_hold_101 (by decide) rfl ⟨by omega, by omega⟩ (fun (c2_4 : (a : Int) = 0) => ?_) (fun (c2_4 : ¬ ((a : Int) = 0)) => ?_)
  · refine e_iconst (pc' := 115) dX2_hold_114 rfl ?_
    refine e_goto (pc' := 119) dX2_hold_115 (by decide) ?_
    exact e_zret dX2_hold_119 rfl (by decide) ⟨rfl, Nat.le_refl _⟩ ⟨_, rfl, by unfold hdB b2i; (first | (rw [if_pos (show law = 0 by omega)]) | (rw [if_neg (show ¬ law = 0 by omega), if_neg (show ¬ law = 1 by omega), if_pos (show law = 2 by omega)]) | (rw [if_neg (show ¬ law = 0 by omega), if_neg (show ¬ law = 1 by omega), if_neg (show ¬ law = 2 by omega)])); first | (rw [if_pos (decide_eq_true (by omega))]) | (rw [if_neg (fun q => absurd (of_decide_eq_true q) (by omega))]), hG1⟩
  · refine e_iload (pc' := 106) dX2_hold_104 rfl rfl ?_
    refine e_ifI (pc' := 109) (t := 114) dX2_hold_106 (by decide) rfl ⟨by omega, by omega⟩ (fun (c4_5 : (b : Int) = 0) => ?_) (fun (c4_5 : ¬ ((b : Int) = 0)) => ?_)
    · refine e_iconst (pc' := 115) dX2_hold_114 rfl ?_
      refine e_goto (pc' := 119) dX2_hold_115 (by decide) ?_
      exact e_zret dX2_hold_119 rfl (by decide) ⟨rfl, Nat.le_refl _⟩ ⟨_, rfl, by unfold hdB b2i; (first | (rw [if_pos (show law = 0 by omega)]) | (rw [if_neg (show ¬ law = 0 by omega), if_neg (show ¬ law = 1 by omega), if_pos (show law = 2 by omega)]) | (rw [if_neg (show ¬ law = 0 by omega), if_neg (show ¬ law = 1 by omega), if_neg (show ¬ law = 2 by omega)])); first | (rw [if_pos (decide_eq_true (by omega))]) | (rw [if_neg (fun q => absurd (of_decide_eq_true q) (by omega))]), hG1⟩
    · refine e_iload (pc' := 111) dX2_hold_109 rfl rfl ?_
      refine e_ifI (pc' := 114) (t := 118) dX2_hold_111 (by decide) rfl ⟨by omega, by omega⟩ (fun (c6_6 : (v1 : Int) ≤ 0) => ?_) (fun (c6_6 : ¬ ((v1 : Int) ≤ 0)) => ?_)
      · refine e_iconst (pc' := 119) dX2_hold_118 rfl ?_
        exact e_zret dX2_hold_119 rfl (by decide) ⟨rfl, Nat.le_refl _⟩ ⟨_, rfl, by unfold hdB b2i; (first | (rw [if_pos (show law = 0 by omega)]) | (rw [if_neg (show ¬ law = 0 by omega), if_neg (show ¬ law = 1 by omega), if_pos (show law = 2 by omega)]) | (rw [if_neg (show ¬ law = 0 by omega), if_neg (show ¬ law = 1 by omega), if_neg (show ¬ law = 2 by omega)])); first | (rw [if_pos (decide_eq_true (by omega))]) | (rw [if_neg (fun q => absurd (of_decide_eq_true q) (by omega))]), hG1⟩
      · refine e_iconst (pc' := 115) dX2_hold_114 rfl ?_
        refine e_goto (pc' := 119) dX2_hold_115 (by decide) ?_
        exact e_zret dX2_hold_119 rfl (by decide) ⟨rfl, Nat.le_refl _⟩ ⟨_, rfl, by unfold hdB b2i; (first | (rw [if_pos (show law = 0 by omega)]) | (rw [if_neg (show ¬ law = 0 by omega), if_neg (show ¬ law = 1 by omega), if_pos (show law = 2 by omega)]) | (rw [if_neg (show ¬ law = 0 by omega), if_neg (show ¬ law = 1 by omega), if_neg (show ¬ law = 2 by omega)])); first | (rw [if_pos (decide_eq_true (by omega))]) | (rw [if_neg (fun q => absurd (of_decide_eq_true q) (by omega))]), hG1⟩

set_option maxHeartbeats 4000000 in
set_option maxRecDepth 100000 in
theorem s_addedTo_11 {X : AX} {d : Nat} {σ : SG} (hr : RlOK σ 11) (x y z : Int) (hx : rg x) (hy : rg y) (hz : rg z) : Ev X 0 0 (d + 3) mX2_addedTo 0 [some (rv 55), some (rv 11), some (iv x), some (iv y), some (iv z)] [] σ (QI (fun v σ' => v = addS σ 11 x y z ∧ Fr [37, 38] σ σ')) := by
  obtain ⟨hx1, hx2⟩ := hx
  obtain ⟨hy1, hy2⟩ := hy
  obtain ⟨hz1, hz2⟩ := hz
  refine e_aload_n (pc' := 1) dX2_addedTo_0 rfl rfl ?_
  refine e_getR (pc' := 4) dX2_addedTo_1 rfl f_2_7 h_55 rfl ?_
  refine e_cv0v (pc' := 7) dX2_addedTo_4 rfl k_2_21 h_37 rfl (Nat.le_of_ble_eq_true rfl) rfl rfl ⟨rfl, rfl⟩ ⟨Nat.zero_le _, Nat.zero_le _⟩ s_clear ?_
  rintro τ0 ⟨hS0, hG0⟩
  refine e_aload_n (pc' := 8) dX2_addedTo_7 rfl rfl ?_
  refine e_getR (pc' := 11) dX2_addedTo_8 rfl f_2_7 h_55 rfl ?_
  refine e_iload_n (pc' := 12) dX2_addedTo_11 rfl rfl ?_
  refine e_cv1v (pc' := 15) dX2_addedTo_12 rfl k_2_26 h_37 rfl (Nat.le_of_ble_eq_true rfl) rfl rfl ⟨rfl, rfl⟩ ⟨Nat.zero_le _, Nat.zero_le _⟩ (s_see st0 x hS0 st0_ok ⟨by omega, by omega⟩) ?_
  rintro τ1 ⟨hS1, hG1⟩
  refine e_aload_n (pc' := 16) dX2_addedTo_15 rfl rfl ?_
  refine e_getR (pc' := 19) dX2_addedTo_16 rfl f_2_7 h_55 rfl ?_
  refine e_iload_n (pc' := 20) dX2_addedTo_19 rfl rfl ?_
  refine e_cv1v (pc' := 23) dX2_addedTo_20 rfl k_2_26 h_37 rfl (Nat.le_of_ble_eq_true rfl) rfl rfl ⟨rfl, rfl⟩ ⟨Nat.zero_le _, Nat.zero_le _⟩ (s_see (seeS st0 x) y hS1 (seeS_ok st0_ok _) ⟨by omega, by omega⟩) ?_
  rintro τ2 ⟨hS2, hG2⟩
  refine e_aload_n (pc' := 24) dX2_addedTo_23 rfl rfl ?_
  refine e_getR (pc' := 27) dX2_addedTo_24 rfl f_2_7 h_55 rfl ?_
  refine e_iload (pc' := 29) dX2_addedTo_27 rfl rfl ?_
  refine e_cv1v (pc' := 32) dX2_addedTo_29 rfl k_2_26 h_37 rfl (Nat.le_of_ble_eq_true rfl) rfl rfl ⟨rfl, rfl⟩ ⟨Nat.zero_le _, Nat.zero_le _⟩ (s_see (seeS (seeS st0 x) y) z hS2 (seeS_ok (seeS_ok st0_ok _) _) ⟨by omega, by omega⟩) ?_
  rintro τ3 ⟨hS3, hG3⟩
  refine e_aload_n (pc' := 33) dX2_addedTo_32 rfl rfl ?_
  refine e_getR (pc' := 36) dX2_addedTo_33 rfl f_2_7 h_55 rfl ?_
  refine e_aload_n (pc' := 37) dX2_addedTo_36 rfl rfl ?_
  have hG : Fr [37] σ τ3 := hG0.tr (hG1.tr (hG2.tr hG3))
  have q0 : τ3.1 11 = σ.1 11 := (hG 11 (by decide)).1
  have q2 : τ3.1 13 = σ.1 13 := (hG 13 (by decide)).1
  have hr3 : RlOK τ3 11 := hr.fr q0 q2
  have hR := see3_R x y z
  refine e_cv1i (pc' := 40) dX2_addedTo_37 rfl k_2_30 h_37 rfl (Nat.le_of_ble_eq_true rfl) rfl rfl ⟨rfl, rfl⟩ ⟨Nat.zero_le _, Nat.zero_le _⟩ (s_toldBy_11 (seeS (seeS (seeS st0 x) y) z) hS3 hR.1 hR.2.1 hR.2.2.1 hR.2.2.2 hr3.1 hr3.2.1 hr3.2.2) ?_
  rintro v4 τ4 ⟨hv4, hG4⟩
  exact e_iret dX2_addedTo_40 rfl ⟨rfl, Nat.le_refl _⟩ ⟨_, rfl, by rw [hv4, q0, q2]; rfl, (hG.mono (by decide)).tr hG4⟩

set_option maxHeartbeats 4000000 in
set_option maxRecDepth 100000 in
theorem l_none_11 {X : AX} {d : Nat} {σ : SG} (hr : RlOK σ 11) (a b ad : Int) (ha : 0 ≤ a ∧ a ≤ 12) (hb : 0 ≤ b ∧ b ≤ 12) (hd : 0 ≤ ad ∧ ad ≤ 99) : ∀ (k : Nat) (i : Int) (τ : SG), 1 ≤ i → (i ≤ a ∨ i = 1) → 14 - i < k → nmI (fun p => addS σ 11 p b (a - p)) ad i = true → Fr [37, 38] σ τ → Ev X 0 0 (d + 4) mX2_noneMoreByHands 3 [some (rv 55), some (rv 11), some (iv a), some (iv b), some (iv ad), some (iv i)] [] τ (QI (fun v σ' => v = b2i (nmI (fun p => addS σ 11 p b (a - p)) ad a) ∧ Fr [37, 38] σ σ')) := by
  intro k
  induction k with
  | zero => intros; omega
  | succ k ih =>
  intro i τ hi0 hi1 hik hI hF
  have q0 : τ.1 11 = σ.1 11 := (hF 11 (by decide)).1
  have q2 : τ.1 13 = σ.1 13 := (hF 13 (by decide)).1
  have hrτ : RlOK τ 11 := hr.fr q0 q2
  refine e_iload (pc' := 5) dX2_noneMoreByHands_3 rfl rfl ?_
  refine e_iload_n (pc' := 6) dX2_noneMoreByHands_5 rfl rfl ?_
  refine e_icmpI (pc' := 9) (t := 34) dX2_noneMoreByHands_6 (by decide) rfl ⟨by omega, by omega⟩ ⟨by omega, by omega⟩ (fun (c2_1 : a ≤ (i : Int)) => ?_) (fun (c2_1 : ¬ (a ≤ (i : Int))) => ?_)
  · refine e_iconst (pc' := 35) dX2_noneMoreByHands_34 rfl ?_
    exact e_zret dX2_noneMoreByHands_35 rfl (by decide) ⟨rfl, Nat.le_refl _⟩ ⟨_, rfl, by rw [show nmI (fun p => addS σ 11 p b (a - p)) ad a = true from (show nmI (fun p => addS σ 11 p b (a - p)) ad a = nmI (fun p => addS σ 11 p b (a - p)) ad i by unfold nmI; rw [show (a - 1).toNat = (i - 1).toNat by omega]).trans hI]; rfl, hF⟩
  · refine e_aload_n (pc' := 10) dX2_noneMoreByHands_9 rfl rfl ?_
    refine e_aload_n (pc' := 11) dX2_noneMoreByHands_10 rfl rfl ?_
    refine e_iload (pc' := 13) dX2_noneMoreByHands_11 rfl rfl ?_
    refine e_iload_n (pc' := 14) dX2_noneMoreByHands_13 rfl rfl ?_
    refine e_iload_n (pc' := 15) dX2_noneMoreByHands_14 rfl rfl ?_
    refine e_iload (pc' := 17) dX2_noneMoreByHands_15 rfl rfl ?_
    refine e_isub (pc' := 18) dX2_noneMoreByHands_17 rfl ?_
    refine e_cv4i (pc' := 21) dX2_noneMoreByHands_18 rfl k_2_13 h_55 rfl (Nat.le_of_ble_eq_true rfl) rfl rfl ⟨rfl, rfl⟩ ⟨Nat.zero_le _, Nat.zero_le _⟩ (s_addedTo_11 hrτ i b (a - i) ⟨by omega, by omega⟩ ⟨by omega, by omega⟩ ⟨by omega, by omega⟩) ?_
    rintro v2 τ2 ⟨hv2, hG2⟩
    rw [addS_fr q0 q2] at hv2
    have hvr := addS_rg σ 11 i b (a - i)
    refine e_iload (pc' := 23) dX2_noneMoreByHands_21 rfl rfl ?_
    refine e_icmpI (pc' := 26) (t := 28) dX2_noneMoreByHands_23 (by decide) rfl ⟨by omega, by omega⟩ ⟨by omega, by omega⟩ (fun (c4_2 : (v2 : Int) ≤ ad) => ?_) (fun (c4_2 : ¬ ((v2 : Int) ≤ ad)) => ?_)
    · refine e_iinc (pc' := 31) (L' := [some (rv 55), some (rv 11), some (iv a), some (iv b), some (iv ad), some (iv (i + 1))]) dX2_noneMoreByHands_28 rfl rfl (by decide) rfl ?_
      refine e_goto (pc' := 3) dX2_noneMoreByHands_31 (by decide) ?_
      exact ih _ _ (by omega) (by omega) (by omega) (by rw [nmI_s _ _ (by omega), hI, show decide (_ ≤ ad) = true from decide_eq_true (show addS σ 11 i b (a - i) ≤ ad by omega)]; rfl) (hF.tr hG2)
    · refine e_iconst (pc' := 27) dX2_noneMoreByHands_26 rfl ?_
      exact e_zret dX2_noneMoreByHands_27 rfl (by decide) ⟨rfl, Nat.le_refl _⟩ ⟨_, rfl, by rw [nmI_f (i := i + 1) (by rw [nmI_s _ _ (by omega), show decide (_ ≤ ad) = false from decide_eq_false (show ¬ addS σ 11 i b (a - i) ≤ ad by omega), Bool.and_false]) (by omega)]; rfl, hF.tr hG2⟩

set_option maxHeartbeats 4000000 in
set_option maxRecDepth 100000 in
theorem s_none_11 {X : AX} {d : Nat} {σ : SG} (hr : RlOK σ 11) (a b ad : Int) (ha : 0 ≤ a ∧ a ≤ 12) (hb : 0 ≤ b ∧ b ≤ 12) (hd : 0 ≤ ad ∧ ad ≤ 99) : Ev X 0 0 (d + 4) mX2_noneMoreByHands 0 [some (rv 55), some (rv 11), some (iv a), some (iv b), some (iv ad), none] [] σ (QI (fun v σ' => v = b2i (nmI (fun p => addS σ 11 p b (a - p)) ad a) ∧ Fr [37, 38] σ σ')) := by
  refine e_iconst (pc' := 1) dX2_noneMoreByHands_0 rfl ?_
  refine e_istore (pc' := 3) (L' := [some (rv 55), some (rv 11), some (iv a), some (iv b), some (iv ad), some (iv 1)]) dX2_noneMoreByHands_1 rfl (by decide) rfl ?_
  exact l_none_11 hr a b ad ha hb hd 15 _ _ (by omega) (by omega) (by omega) rfl Fr.rf

set_option maxHeartbeats 4000000 in
set_option maxRecDepth 100000 in
theorem s_hold_11 {X : AX} {d : Nat} {σ : SG} (hr : RlOK σ 11) (law top a b : Int) (hl : 0 ≤ law ∧ law ≤ 3) (ht : 1 ≤ top ∧ top ≤ 12) (ha : 0 ≤ a ∧ a ≤ top) (hb : 0 ≤ b ∧ b ≤ top) : Ev X 0 0 (d + 5) mX2_hold 0 [some (rv 55), some (rv 11), some (iv law), some (iv top), some (iv a), some (iv b), none] [] σ (QI (fun v σ' => v = b2i (hdB σ 11 law top a b) ∧ Fr [37, 38] σ σ')) := by
  refine e_aload_n (pc' := 1) dX2_hold_0 rfl rfl ?_
  refine e_aload_n (pc' := 2) dX2_hold_1 rfl rfl ?_
  refine e_iload (pc' := 4) dX2_hold_2 rfl rfl ?_
  refine e_iload (pc' := 6) dX2_hold_4 rfl rfl ?_
  refine e_iconst (pc' := 7) dX2_hold_6 rfl ?_
  refine e_cv4i (pc' := 10) dX2_hold_7 rfl k_2_13 h_55 rfl (Nat.le_of_ble_eq_true rfl) rfl rfl ⟨rfl, rfl⟩ ⟨Nat.zero_le _, Nat.zero_le _⟩ (s_addedTo_11 hr a b 0 ⟨by omega, by omega⟩ ⟨by omega, by omega⟩ ⟨by omega, by omega⟩) ?_
  rintro v1 τ1 ⟨hv1, hG1⟩
  have hvr := addS_rg σ 11 a b 0
  have q0 : τ1.1 11 = σ.1 11 := (hG1 11 (by decide)).1
  have q2 : τ1.1 13 = σ.1 13 := (hG1 13 (by decide)).1
  have hrτ : RlOK τ1 11 := hr.fr q0 q2
  refine e_istore (pc' := 12) (L' := [some (rv 55), some (rv 11), some (iv law), some (iv top), some (iv a), some (iv b), some (iv v1)]) dX2_hold_10 rfl (by decide) rfl ?_
  refine e_iload_n (pc' := 13) dX2_hold_12 rfl rfl ?_
  by_cases k2_1 : law = 0
  · refine e_table (pc' := 40) (off := 27) dX2_hold_13 ⟨by omega, by omega⟩  (by rw [k2_1]; rfl) (by decide) ?_
    refine e_iload (pc' := 42) dX2_hold_40 rfl rfl ?_
    refine e_iload_n (pc' := 43) dX2_hold_42 rfl rfl ?_
    refine e_icmpI (pc' := 46) (t := 65) dX2_hold_43 (by decide) rfl ⟨by omega, by omega⟩ ⟨by omega, by omega⟩ (fun (c4_2 : (a : Int) = top) => ?_) (fun (c4_2 : ¬ ((a : Int) = top)) => ?_)
    · refine e_iconst (pc' := 66) dX2_hold_65 rfl ?_
      refine e_goto (pc' := 70) dX2_hold_66 (by decide) ?_
      exact e_zret dX2_hold_70 rfl (by decide) ⟨rfl, Nat.le_refl _⟩ ⟨_, rfl, by unfold hdB b2i; (first | (rw [if_pos (show law = 0 by omega)]) | (rw [if_neg (show ¬ law = 0 by omega), if_neg (show ¬ law = 1 by omega), if_pos (show law = 2 by omega)]) | (rw [if_neg (show ¬ law = 0 by omega), if_neg (show ¬ law = 1 by omega), if_neg (show ¬ law = 2 by omega)])); first | (rw [if_pos (decide_eq_true (by omega))]) | (rw [if_neg (fun q => absurd (of_decide_eq_true q) (by omega))]), hG1⟩
    · refine e_iconst (pc' := 47) dX2_hold_46 rfl ?_
      refine e_aload_n (pc' := 48) dX2_hold_47 rfl rfl ?_
      refine e_aload_n (pc' := 49) dX2_hold_48 rfl rfl ?_
      refine e_iload (pc' := 51) dX2_hold_49 rfl rfl ?_
      refine e_iconst (pc' := 52) dX2_hold_51 rfl ?_
      refine e_iadd (pc' := 53) dX2_hold_52 rfl ?_
      refine e_iload (pc' := 55) dX2_hold_53 rfl rfl ?_
      refine e_iconst (pc' := 56) dX2_hold_55 rfl ?_
      refine e_cv4i (pc' := 59) dX2_hold_56 rfl k_2_13 h_55 rfl (Nat.le_of_ble_eq_true rfl) rfl rfl ⟨rfl, rfl⟩ ⟨Nat.zero_le _, Nat.zero_le _⟩ (s_addedTo_11 hrτ (a + 1) b 0 ⟨by omega, by omega⟩ ⟨by omega, by omega⟩ ⟨by omega, by omega⟩) ?_
      rintro v2 τ2 ⟨hv2, hG2⟩
      rw [addS_fr q0 q2] at hv2
      have hvr2 := addS_rg σ 11 (a + 1) b 0
      refine e_iadd (pc' := 60) dX2_hold_59 rfl ?_
      refine e_iload (pc' := 62) dX2_hold_60 rfl rfl ?_
      refine e_icmpI (pc' := 65) (t := 69) dX2_hold_62 (by decide) rfl ⟨by omega, by omega⟩ ⟨by omega, by omega⟩ (fun (c6_3 : ((1 + v2) : Int) < v1) => ?_) (fun (c6_3 : ¬ (((1 + v2) : Int) < v1)) => ?_)
      · refine e_iconst (pc' := 70) dX2_hold_69 rfl ?_
        exact e_zret dX2_hold_70 rfl (by decide) ⟨rfl, Nat.le_refl _⟩ ⟨_, rfl, by unfold hdB b2i; (first | (rw [if_pos (show law = 0 by omega)]) | (rw [if_neg (show ¬ law = 0 by omega), if_neg (show ¬ law = 1 by omega), if_pos (show law = 2 by omega)]) | (rw [if_neg (show ¬ law = 0 by omega), if_neg (show ¬ law = 1 by omega), if_neg (show ¬ law = 2 by omega)])); first | (rw [if_pos (decide_eq_true (by omega))]) | (rw [if_neg (fun q => absurd (of_decide_eq_true q) (by omega))]), hG1.tr hG2⟩
      · refine e_iconst (pc' := 66) dX2_hold_65 rfl ?_
        refine e_goto (pc' := 70) dX2_hold_66 (by decide) ?_
        exact e_zret dX2_hold_70 rfl (by decide) ⟨rfl, Nat.le_refl _⟩ ⟨_, rfl, by unfold hdB b2i; (first | (rw [if_pos (show law = 0 by omega)]) | (rw [if_neg (show ¬ law = 0 by omega), if_neg (show ¬ law = 1 by omega), if_pos (show law = 2 by omega)]) | (rw [if_neg (show ¬ law = 0 by omega), if_neg (show ¬ law = 1 by omega), if_neg (show ¬ law = 2 by omega)])); first | (rw [if_pos (decide_eq_true (by omega))]) | (rw [if_neg (fun q => absurd (of_decide_eq_true q) (by omega))]), hG1.tr hG2⟩
  by_cases k2_2 : law = 1
  · refine e_table (pc' := 71) (off := 58) dX2_hold_13 ⟨by omega, by omega⟩  (by rw [k2_2]; rfl) (by decide) ?_
    refine e_aload_n (pc' := 72) dX2_hold_71 rfl rfl ?_
    refine e_aload_n (pc' := 73) dX2_hold_72 rfl rfl ?_
    refine e_iload (pc' := 75) dX2_hold_73 rfl rfl ?_
    refine e_iload (pc' := 77) dX2_hold_75 rfl rfl ?_
    refine e_iload (pc' := 79) dX2_hold_77 rfl rfl ?_
    refine e_cv4i (pc' := 82) dX2_hold_79 rfl k_2_17 h_55 rfl (Nat.le_of_ble_eq_true rfl) rfl rfl ⟨rfl, rfl⟩ ⟨Nat.zero_le _, Nat.zero_le _⟩ (s_none_11 hrτ a b v1 ⟨by omega, by omega⟩ ⟨by omega, by omega⟩ (by omega)) ?_
    rintro v3 τ3 ⟨hv3, hG3⟩
    exact e_zret dX2_hold_82 rfl (by rw [hv3]; unfold b2i; split <;> simp) ⟨rfl, Nat.le_refl _⟩ ⟨_, rfl, by rw [hv3]; unfold hdB; rw [if_neg (by omega), if_pos (by omega), ← hv1]; congr 1; congr 1; funext p; exact addS_fr q0 q2 _ _ _, hG1.tr hG3⟩
  by_cases k2_3 : law = 2
  · refine e_table (pc' := 83) (off := 70) dX2_hold_13 ⟨by omega, by omega⟩  (by rw [k2_3]; rfl) (by decide) ?_
    refine e_iload (pc' := 85) dX2_hold_83 rfl rfl ?_
    refine e_iload (pc' := 87) dX2_hold_85 rfl rfl ?_
    refine e_iload (pc' := 89) dX2_hold_87 rfl rfl ?_
    refine e_iadd (pc' := 90) dX2_hold_89 rfl ?_
    refine e_icmpI (pc' := 93) (t := 97) dX2_hold_90 (by decide) rfl ⟨by omega, by omega⟩ ⟨by omega, by omega⟩ (fun (c4_4 : (a + b) < (v1 : Int)) => ?_) (fun (c4_4 : ¬ ((a + b) < (v1 : Int))) => ?_)
    · refine e_iconst (pc' := 98) dX2_hold_97 rfl ?_
      exact e_zret dX2_hold_98 rfl (by decide) ⟨rfl, Nat.le_refl _⟩ ⟨_, rfl, by unfold hdB b2i; (first | (rw [if_pos (show law = 0 by omega)]) | (rw [if_neg (show ¬ law = 0 by omega), if_neg (show ¬ law = 1 by omega), if_pos (show law = 2 by omega)]) | (rw [if_neg (show ¬ law = 0 by omega), if_neg (show ¬ law = 1 by omega), if_neg (show ¬ law = 2 by omega)])); first | (rw [if_pos (decide_eq_true (by omega))]) | (rw [if_neg (fun q => absurd (of_decide_eq_true q) (by omega))]), hG1⟩
    · refine e_iconst (pc' := 94) dX2_hold_93 rfl ?_
      refine e_goto (pc' := 98) dX2_hold_94 (by decide) ?_
      exact e_zret dX2_hold_98 rfl (by decide) ⟨rfl, Nat.le_refl _⟩ ⟨_, rfl, by unfold hdB b2i; (first | (rw [if_pos (show law = 0 by omega)]) | (rw [if_neg (show ¬ law = 0 by omega), if_neg (show ¬ law = 1 by omega), if_pos (show law = 2 by omega)]) | (rw [if_neg (show ¬ law = 0 by omega), if_neg (show ¬ law = 1 by omega), if_neg (show ¬ law = 2 by omega)])); first | (rw [if_pos (decide_eq_true (by omega))]) | (rw [if_neg (fun q => absurd (of_decide_eq_true q) (by omega))]), hG1⟩
  refine e_table (pc' := 99) (off := 86) dX2_hold_13 ⟨by omega, by omega⟩  (by rw [if_pos (by omega)]) (by decide) ?_
  refine e_iload (pc' := 101) dX2_hold_99 rfl rfl ?_
  refine e_ifI (pc' := 104) (t := 114) dX2_hold_101 (by decide) rfl ⟨by omega, by omega⟩ (fun (c2_4 : (a : Int) = 0) => ?_) (fun (c2_4 : ¬ ((a : Int) = 0)) => ?_)
  · refine e_iconst (pc' := 115) dX2_hold_114 rfl ?_
    refine e_goto (pc' := 119) dX2_hold_115 (by decide) ?_
    exact e_zret dX2_hold_119 rfl (by decide) ⟨rfl, Nat.le_refl _⟩ ⟨_, rfl, by unfold hdB b2i; (first | (rw [if_pos (show law = 0 by omega)]) | (rw [if_neg (show ¬ law = 0 by omega), if_neg (show ¬ law = 1 by omega), if_pos (show law = 2 by omega)]) | (rw [if_neg (show ¬ law = 0 by omega), if_neg (show ¬ law = 1 by omega), if_neg (show ¬ law = 2 by omega)])); first | (rw [if_pos (decide_eq_true (by omega))]) | (rw [if_neg (fun q => absurd (of_decide_eq_true q) (by omega))]), hG1⟩
  · refine e_iload (pc' := 106) dX2_hold_104 rfl rfl ?_
    refine e_ifI (pc' := 109) (t := 114) dX2_hold_106 (by decide) rfl ⟨by omega, by omega⟩ (fun (c4_5 : (b : Int) = 0) => ?_) (fun (c4_5 : ¬ ((b : Int) = 0)) => ?_)
    · refine e_iconst (pc' := 115) dX2_hold_114 rfl ?_
      refine e_goto (pc' := 119) dX2_hold_115 (by decide) ?_
      exact e_zret dX2_hold_119 rfl (by decide) ⟨rfl, Nat.le_refl _⟩ ⟨_, rfl, by unfold hdB b2i; (first | (rw [if_pos (show law = 0 by omega)]) | (rw [if_neg (show ¬ law = 0 by omega), if_neg (show ¬ law = 1 by omega), if_pos (show law = 2 by omega)]) | (rw [if_neg (show ¬ law = 0 by omega), if_neg (show ¬ law = 1 by omega), if_neg (show ¬ law = 2 by omega)])); first | (rw [if_pos (decide_eq_true (by omega))]) | (rw [if_neg (fun q => absurd (of_decide_eq_true q) (by omega))]), hG1⟩
    · refine e_iload (pc' := 111) dX2_hold_109 rfl rfl ?_
      refine e_ifI (pc' := 114) (t := 118) dX2_hold_111 (by decide) rfl ⟨by omega, by omega⟩ (fun (c6_6 : (v1 : Int) ≤ 0) => ?_) (fun (c6_6 : ¬ ((v1 : Int) ≤ 0)) => ?_)
      · refine e_iconst (pc' := 119) dX2_hold_118 rfl ?_
        exact e_zret dX2_hold_119 rfl (by decide) ⟨rfl, Nat.le_refl _⟩ ⟨_, rfl, by unfold hdB b2i; (first | (rw [if_pos (show law = 0 by omega)]) | (rw [if_neg (show ¬ law = 0 by omega), if_neg (show ¬ law = 1 by omega), if_pos (show law = 2 by omega)]) | (rw [if_neg (show ¬ law = 0 by omega), if_neg (show ¬ law = 1 by omega), if_neg (show ¬ law = 2 by omega)])); first | (rw [if_pos (decide_eq_true (by omega))]) | (rw [if_neg (fun q => absurd (of_decide_eq_true q) (by omega))]), hG1⟩
      · refine e_iconst (pc' := 115) dX2_hold_114 rfl ?_
        refine e_goto (pc' := 119) dX2_hold_115 (by decide) ?_
        exact e_zret dX2_hold_119 rfl (by decide) ⟨rfl, Nat.le_refl _⟩ ⟨_, rfl, by unfold hdB b2i; (first | (rw [if_pos (show law = 0 by omega)]) | (rw [if_neg (show ¬ law = 0 by omega), if_neg (show ¬ law = 1 by omega), if_pos (show law = 2 by omega)]) | (rw [if_neg (show ¬ law = 0 by omega), if_neg (show ¬ law = 1 by omega), if_neg (show ¬ law = 2 by omega)])); first | (rw [if_pos (decide_eq_true (by omega))]) | (rw [if_neg (fun q => absurd (of_decide_eq_true q) (by omega))]), hG1⟩

set_option maxHeartbeats 4000000 in
set_option maxRecDepth 100000 in
theorem s_addedTo_14 {X : AX} {d : Nat} {σ : SG} (hr : RlOK σ 14) (x y z : Int) (hx : rg x) (hy : rg y) (hz : rg z) : Ev X 0 0 (d + 3) mX2_addedTo 0 [some (rv 55), some (rv 14), some (iv x), some (iv y), some (iv z)] [] σ (QI (fun v σ' => v = addS σ 14 x y z ∧ Fr [37, 38] σ σ')) := by
  obtain ⟨hx1, hx2⟩ := hx
  obtain ⟨hy1, hy2⟩ := hy
  obtain ⟨hz1, hz2⟩ := hz
  refine e_aload_n (pc' := 1) dX2_addedTo_0 rfl rfl ?_
  refine e_getR (pc' := 4) dX2_addedTo_1 rfl f_2_7 h_55 rfl ?_
  refine e_cv0v (pc' := 7) dX2_addedTo_4 rfl k_2_21 h_37 rfl (Nat.le_of_ble_eq_true rfl) rfl rfl ⟨rfl, rfl⟩ ⟨Nat.zero_le _, Nat.zero_le _⟩ s_clear ?_
  rintro τ0 ⟨hS0, hG0⟩
  refine e_aload_n (pc' := 8) dX2_addedTo_7 rfl rfl ?_
  refine e_getR (pc' := 11) dX2_addedTo_8 rfl f_2_7 h_55 rfl ?_
  refine e_iload_n (pc' := 12) dX2_addedTo_11 rfl rfl ?_
  refine e_cv1v (pc' := 15) dX2_addedTo_12 rfl k_2_26 h_37 rfl (Nat.le_of_ble_eq_true rfl) rfl rfl ⟨rfl, rfl⟩ ⟨Nat.zero_le _, Nat.zero_le _⟩ (s_see st0 x hS0 st0_ok ⟨by omega, by omega⟩) ?_
  rintro τ1 ⟨hS1, hG1⟩
  refine e_aload_n (pc' := 16) dX2_addedTo_15 rfl rfl ?_
  refine e_getR (pc' := 19) dX2_addedTo_16 rfl f_2_7 h_55 rfl ?_
  refine e_iload_n (pc' := 20) dX2_addedTo_19 rfl rfl ?_
  refine e_cv1v (pc' := 23) dX2_addedTo_20 rfl k_2_26 h_37 rfl (Nat.le_of_ble_eq_true rfl) rfl rfl ⟨rfl, rfl⟩ ⟨Nat.zero_le _, Nat.zero_le _⟩ (s_see (seeS st0 x) y hS1 (seeS_ok st0_ok _) ⟨by omega, by omega⟩) ?_
  rintro τ2 ⟨hS2, hG2⟩
  refine e_aload_n (pc' := 24) dX2_addedTo_23 rfl rfl ?_
  refine e_getR (pc' := 27) dX2_addedTo_24 rfl f_2_7 h_55 rfl ?_
  refine e_iload (pc' := 29) dX2_addedTo_27 rfl rfl ?_
  refine e_cv1v (pc' := 32) dX2_addedTo_29 rfl k_2_26 h_37 rfl (Nat.le_of_ble_eq_true rfl) rfl rfl ⟨rfl, rfl⟩ ⟨Nat.zero_le _, Nat.zero_le _⟩ (s_see (seeS (seeS st0 x) y) z hS2 (seeS_ok (seeS_ok st0_ok _) _) ⟨by omega, by omega⟩) ?_
  rintro τ3 ⟨hS3, hG3⟩
  refine e_aload_n (pc' := 33) dX2_addedTo_32 rfl rfl ?_
  refine e_getR (pc' := 36) dX2_addedTo_33 rfl f_2_7 h_55 rfl ?_
  refine e_aload_n (pc' := 37) dX2_addedTo_36 rfl rfl ?_
  have hG : Fr [37] σ τ3 := hG0.tr (hG1.tr (hG2.tr hG3))
  have q0 : τ3.1 14 = σ.1 14 := (hG 14 (by decide)).1
  have q2 : τ3.1 16 = σ.1 16 := (hG 16 (by decide)).1
  have hr3 : RlOK τ3 14 := hr.fr q0 q2
  have hR := see3_R x y z
  refine e_cv1i (pc' := 40) dX2_addedTo_37 rfl k_2_30 h_37 rfl (Nat.le_of_ble_eq_true rfl) rfl rfl ⟨rfl, rfl⟩ ⟨Nat.zero_le _, Nat.zero_le _⟩ (s_toldBy_14 (seeS (seeS (seeS st0 x) y) z) hS3 hR.1 hR.2.1 hR.2.2.1 hR.2.2.2 hr3.1 hr3.2.1 hr3.2.2) ?_
  rintro v4 τ4 ⟨hv4, hG4⟩
  exact e_iret dX2_addedTo_40 rfl ⟨rfl, Nat.le_refl _⟩ ⟨_, rfl, by rw [hv4, q0, q2]; rfl, (hG.mono (by decide)).tr hG4⟩

set_option maxHeartbeats 4000000 in
set_option maxRecDepth 100000 in
theorem l_none_14 {X : AX} {d : Nat} {σ : SG} (hr : RlOK σ 14) (a b ad : Int) (ha : 0 ≤ a ∧ a ≤ 12) (hb : 0 ≤ b ∧ b ≤ 12) (hd : 0 ≤ ad ∧ ad ≤ 99) : ∀ (k : Nat) (i : Int) (τ : SG), 1 ≤ i → (i ≤ a ∨ i = 1) → 14 - i < k → nmI (fun p => addS σ 14 p b (a - p)) ad i = true → Fr [37, 38] σ τ → Ev X 0 0 (d + 4) mX2_noneMoreByHands 3 [some (rv 55), some (rv 14), some (iv a), some (iv b), some (iv ad), some (iv i)] [] τ (QI (fun v σ' => v = b2i (nmI (fun p => addS σ 14 p b (a - p)) ad a) ∧ Fr [37, 38] σ σ')) := by
  intro k
  induction k with
  | zero => intros; omega
  | succ k ih =>
  intro i τ hi0 hi1 hik hI hF
  have q0 : τ.1 14 = σ.1 14 := (hF 14 (by decide)).1
  have q2 : τ.1 16 = σ.1 16 := (hF 16 (by decide)).1
  have hrτ : RlOK τ 14 := hr.fr q0 q2
  refine e_iload (pc' := 5) dX2_noneMoreByHands_3 rfl rfl ?_
  refine e_iload_n (pc' := 6) dX2_noneMoreByHands_5 rfl rfl ?_
  refine e_icmpI (pc' := 9) (t := 34) dX2_noneMoreByHands_6 (by decide) rfl ⟨by omega, by omega⟩ ⟨by omega, by omega⟩ (fun (c2_1 : a ≤ (i : Int)) => ?_) (fun (c2_1 : ¬ (a ≤ (i : Int))) => ?_)
  · refine e_iconst (pc' := 35) dX2_noneMoreByHands_34 rfl ?_
    exact e_zret dX2_noneMoreByHands_35 rfl (by decide) ⟨rfl, Nat.le_refl _⟩ ⟨_, rfl, by rw [show nmI (fun p => addS σ 14 p b (a - p)) ad a = true from (show nmI (fun p => addS σ 14 p b (a - p)) ad a = nmI (fun p => addS σ 14 p b (a - p)) ad i by unfold nmI; rw [show (a - 1).toNat = (i - 1).toNat by omega]).trans hI]; rfl, hF⟩
  · refine e_aload_n (pc' := 10) dX2_noneMoreByHands_9 rfl rfl ?_
    refine e_aload_n (pc' := 11) dX2_noneMoreByHands_10 rfl rfl ?_
    refine e_iload (pc' := 13) dX2_noneMoreByHands_11 rfl rfl ?_
    refine e_iload_n (pc' := 14) dX2_noneMoreByHands_13 rfl rfl ?_
    refine e_iload_n (pc' := 15) dX2_noneMoreByHands_14 rfl rfl ?_
    refine e_iload (pc' := 17) dX2_noneMoreByHands_15 rfl rfl ?_
    refine e_isub (pc' := 18) dX2_noneMoreByHands_17 rfl ?_
    refine e_cv4i (pc' := 21) dX2_noneMoreByHands_18 rfl k_2_13 h_55 rfl (Nat.le_of_ble_eq_true rfl) rfl rfl ⟨rfl, rfl⟩ ⟨Nat.zero_le _, Nat.zero_le _⟩ (s_addedTo_14 hrτ i b (a - i) ⟨by omega, by omega⟩ ⟨by omega, by omega⟩ ⟨by omega, by omega⟩) ?_
    rintro v2 τ2 ⟨hv2, hG2⟩
    rw [addS_fr q0 q2] at hv2
    have hvr := addS_rg σ 14 i b (a - i)
    refine e_iload (pc' := 23) dX2_noneMoreByHands_21 rfl rfl ?_
    refine e_icmpI (pc' := 26) (t := 28) dX2_noneMoreByHands_23 (by decide) rfl ⟨by omega, by omega⟩ ⟨by omega, by omega⟩ (fun (c4_2 : (v2 : Int) ≤ ad) => ?_) (fun (c4_2 : ¬ ((v2 : Int) ≤ ad)) => ?_)
    · refine e_iinc (pc' := 31) (L' := [some (rv 55), some (rv 14), some (iv a), some (iv b), some (iv ad), some (iv (i + 1))]) dX2_noneMoreByHands_28 rfl rfl (by decide) rfl ?_
      refine e_goto (pc' := 3) dX2_noneMoreByHands_31 (by decide) ?_
      exact ih _ _ (by omega) (by omega) (by omega) (by rw [nmI_s _ _ (by omega), hI, show decide (_ ≤ ad) = true from decide_eq_true (show addS σ 14 i b (a - i) ≤ ad by omega)]; rfl) (hF.tr hG2)
    · refine e_iconst (pc' := 27) dX2_noneMoreByHands_26 rfl ?_
      exact e_zret dX2_noneMoreByHands_27 rfl (by decide) ⟨rfl, Nat.le_refl _⟩ ⟨_, rfl, by rw [nmI_f (i := i + 1) (by rw [nmI_s _ _ (by omega), show decide (_ ≤ ad) = false from decide_eq_false (show ¬ addS σ 14 i b (a - i) ≤ ad by omega), Bool.and_false]) (by omega)]; rfl, hF.tr hG2⟩

set_option maxHeartbeats 4000000 in
set_option maxRecDepth 100000 in
theorem s_none_14 {X : AX} {d : Nat} {σ : SG} (hr : RlOK σ 14) (a b ad : Int) (ha : 0 ≤ a ∧ a ≤ 12) (hb : 0 ≤ b ∧ b ≤ 12) (hd : 0 ≤ ad ∧ ad ≤ 99) : Ev X 0 0 (d + 4) mX2_noneMoreByHands 0 [some (rv 55), some (rv 14), some (iv a), some (iv b), some (iv ad), none] [] σ (QI (fun v σ' => v = b2i (nmI (fun p => addS σ 14 p b (a - p)) ad a) ∧ Fr [37, 38] σ σ')) := by
  refine e_iconst (pc' := 1) dX2_noneMoreByHands_0 rfl ?_
  refine e_istore (pc' := 3) (L' := [some (rv 55), some (rv 14), some (iv a), some (iv b), some (iv ad), some (iv 1)]) dX2_noneMoreByHands_1 rfl (by decide) rfl ?_
  exact l_none_14 hr a b ad ha hb hd 15 _ _ (by omega) (by omega) (by omega) rfl Fr.rf

set_option maxHeartbeats 4000000 in
set_option maxRecDepth 100000 in
theorem s_hold_14 {X : AX} {d : Nat} {σ : SG} (hr : RlOK σ 14) (law top a b : Int) (hl : 0 ≤ law ∧ law ≤ 3) (ht : 1 ≤ top ∧ top ≤ 12) (ha : 0 ≤ a ∧ a ≤ top) (hb : 0 ≤ b ∧ b ≤ top) : Ev X 0 0 (d + 5) mX2_hold 0 [some (rv 55), some (rv 14), some (iv law), some (iv top), some (iv a), some (iv b), none] [] σ (QI (fun v σ' => v = b2i (hdB σ 14 law top a b) ∧ Fr [37, 38] σ σ')) := by
  refine e_aload_n (pc' := 1) dX2_hold_0 rfl rfl ?_
  refine e_aload_n (pc' := 2) dX2_hold_1 rfl rfl ?_
  refine e_iload (pc' := 4) dX2_hold_2 rfl rfl ?_
  refine e_iload (pc' := 6) dX2_hold_4 rfl rfl ?_
  refine e_iconst (pc' := 7) dX2_hold_6 rfl ?_
  refine e_cv4i (pc' := 10) dX2_hold_7 rfl k_2_13 h_55 rfl (Nat.le_of_ble_eq_true rfl) rfl rfl ⟨rfl, rfl⟩ ⟨Nat.zero_le _, Nat.zero_le _⟩ (s_addedTo_14 hr a b 0 ⟨by omega, by omega⟩ ⟨by omega, by omega⟩ ⟨by omega, by omega⟩) ?_
  rintro v1 τ1 ⟨hv1, hG1⟩
  have hvr := addS_rg σ 14 a b 0
  have q0 : τ1.1 14 = σ.1 14 := (hG1 14 (by decide)).1
  have q2 : τ1.1 16 = σ.1 16 := (hG1 16 (by decide)).1
  have hrτ : RlOK τ1 14 := hr.fr q0 q2
  refine e_istore (pc' := 12) (L' := [some (rv 55), some (rv 14), some (iv law), some (iv top), some (iv a), some (iv b), some (iv v1)]) dX2_hold_10 rfl (by decide) rfl ?_
  refine e_iload_n (pc' := 13) dX2_hold_12 rfl rfl ?_
  by_cases k2_1 : law = 0
  · refine e_table (pc' := 40) (off := 27) dX2_hold_13 ⟨by omega, by omega⟩  (by rw [k2_1]; rfl) (by decide) ?_
    refine e_iload (pc' := 42) dX2_hold_40 rfl rfl ?_
    refine e_iload_n (pc' := 43) dX2_hold_42 rfl rfl ?_
    refine e_icmpI (pc' := 46) (t := 65) dX2_hold_43 (by decide) rfl ⟨by omega, by omega⟩ ⟨by omega, by omega⟩ (fun (c4_2 : (a : Int) = top) => ?_) (fun (c4_2 : ¬ ((a : Int) = top)) => ?_)
    · refine e_iconst (pc' := 66) dX2_hold_65 rfl ?_
      refine e_goto (pc' := 70) dX2_hold_66 (by decide) ?_
      exact e_zret dX2_hold_70 rfl (by decide) ⟨rfl, Nat.le_refl _⟩ ⟨_, rfl, by unfold hdB b2i; (first | (rw [if_pos (show law = 0 by omega)]) | (rw [if_neg (show ¬ law = 0 by omega), if_neg (show ¬ law = 1 by omega), if_pos (show law = 2 by omega)]) | (rw [if_neg (show ¬ law = 0 by omega), if_neg (show ¬ law = 1 by omega), if_neg (show ¬ law = 2 by omega)])); first | (rw [if_pos (decide_eq_true (by omega))]) | (rw [if_neg (fun q => absurd (of_decide_eq_true q) (by omega))]), hG1⟩
    · refine e_iconst (pc' := 47) dX2_hold_46 rfl ?_
      refine e_aload_n (pc' := 48) dX2_hold_47 rfl rfl ?_
      refine e_aload_n (pc' := 49) dX2_hold_48 rfl rfl ?_
      refine e_iload (pc' := 51) dX2_hold_49 rfl rfl ?_
      refine e_iconst (pc' := 52) dX2_hold_51 rfl ?_
      refine e_iadd (pc' := 53) dX2_hold_52 rfl ?_
      refine e_iload (pc' := 55) dX2_hold_53 rfl rfl ?_
      refine e_iconst (pc' := 56) dX2_hold_55 rfl ?_
      refine e_cv4i (pc' := 59) dX2_hold_56 rfl k_2_13 h_55 rfl (Nat.le_of_ble_eq_true rfl) rfl rfl ⟨rfl, rfl⟩ ⟨Nat.zero_le _, Nat.zero_le _⟩ (s_addedTo_14 hrτ (a + 1) b 0 ⟨by omega, by omega⟩ ⟨by omega, by omega⟩ ⟨by omega, by omega⟩) ?_
      rintro v2 τ2 ⟨hv2, hG2⟩
      rw [addS_fr q0 q2] at hv2
      have hvr2 := addS_rg σ 14 (a + 1) b 0
      refine e_iadd (pc' := 60) dX2_hold_59 rfl ?_
      refine e_iload (pc' := 62) dX2_hold_60 rfl rfl ?_
      refine e_icmpI (pc' := 65) (t := 69) dX2_hold_62 (by decide) rfl ⟨by omega, by omega⟩ ⟨by omega, by omega⟩ (fun (c6_3 : ((1 + v2) : Int) < v1) => ?_) (fun (c6_3 : ¬ (((1 + v2) : Int) < v1)) => ?_)
      · refine e_iconst (pc' := 70) dX2_hold_69 rfl ?_
        exact e_zret dX2_hold_70 rfl (by decide) ⟨rfl, Nat.le_refl _⟩ ⟨_, rfl, by unfold hdB b2i; (first | (rw [if_pos (show law = 0 by omega)]) | (rw [if_neg (show ¬ law = 0 by omega), if_neg (show ¬ law = 1 by omega), if_pos (show law = 2 by omega)]) | (rw [if_neg (show ¬ law = 0 by omega), if_neg (show ¬ law = 1 by omega), if_neg (show ¬ law = 2 by omega)])); first | (rw [if_pos (decide_eq_true (by omega))]) | (rw [if_neg (fun q => absurd (of_decide_eq_true q) (by omega))]), hG1.tr hG2⟩
      · refine e_iconst (pc' := 66) dX2_hold_65 rfl ?_
        refine e_goto (pc' := 70) dX2_hold_66 (by decide) ?_
        exact e_zret dX2_hold_70 rfl (by decide) ⟨rfl, Nat.le_refl _⟩ ⟨_, rfl, by unfold hdB b2i; (first | (rw [if_pos (show law = 0 by omega)]) | (rw [if_neg (show ¬ law = 0 by omega), if_neg (show ¬ law = 1 by omega), if_pos (show law = 2 by omega)]) | (rw [if_neg (show ¬ law = 0 by omega), if_neg (show ¬ law = 1 by omega), if_neg (show ¬ law = 2 by omega)])); first | (rw [if_pos (decide_eq_true (by omega))]) | (rw [if_neg (fun q => absurd (of_decide_eq_true q) (by omega))]), hG1.tr hG2⟩
  by_cases k2_2 : law = 1
  · refine e_table (pc' := 71) (off := 58) dX2_hold_13 ⟨by omega, by omega⟩  (by rw [k2_2]; rfl) (by decide) ?_
    refine e_aload_n (pc' := 72) dX2_hold_71 rfl rfl ?_
    refine e_aload_n (pc' := 73) dX2_hold_72 rfl rfl ?_
    refine e_iload (pc' := 75) dX2_hold_73 rfl rfl ?_
    refine e_iload (pc' := 77) dX2_hold_75 rfl rfl ?_
    refine e_iload (pc' := 79) dX2_hold_77 rfl rfl ?_
    refine e_cv4i (pc' := 82) dX2_hold_79 rfl k_2_17 h_55 rfl (Nat.le_of_ble_eq_true rfl) rfl rfl ⟨rfl, rfl⟩ ⟨Nat.zero_le _, Nat.zero_le _⟩ (s_none_14 hrτ a b v1 ⟨by omega, by omega⟩ ⟨by omega, by omega⟩ (by omega)) ?_
    rintro v3 τ3 ⟨hv3, hG3⟩
    exact e_zret dX2_hold_82 rfl (by rw [hv3]; unfold b2i; split <;> simp) ⟨rfl, Nat.le_refl _⟩ ⟨_, rfl, by rw [hv3]; unfold hdB; rw [if_neg (by omega), if_pos (by omega), ← hv1]; congr 1; congr 1; funext p; exact addS_fr q0 q2 _ _ _, hG1.tr hG3⟩
  by_cases k2_3 : law = 2
  · refine e_table (pc' := 83) (off := 70) dX2_hold_13 ⟨by omega, by omega⟩  (by rw [k2_3]; rfl) (by decide) ?_
    refine e_iload (pc' := 85) dX2_hold_83 rfl rfl ?_
    refine e_iload (pc' := 87) dX2_hold_85 rfl rfl ?_
    refine e_iload (pc' := 89) dX2_hold_87 rfl rfl ?_
    refine e_iadd (pc' := 90) dX2_hold_89 rfl ?_
    refine e_icmpI (pc' := 93) (t := 97) dX2_hold_90 (by decide) rfl ⟨by omega, by omega⟩ ⟨by omega, by omega⟩ (fun (c4_4 : (a + b) < (v1 : Int)) => ?_) (fun (c4_4 : ¬ ((a + b) < (v1 : Int))) => ?_)
    · refine e_iconst (pc' := 98) dX2_hold_97 rfl ?_
      exact e_zret dX2_hold_98 rfl (by decide) ⟨rfl, Nat.le_refl _⟩ ⟨_, rfl, by unfold hdB b2i; (first | (rw [if_pos (show law = 0 by omega)]) | (rw [if_neg (show ¬ law = 0 by omega), if_neg (show ¬ law = 1 by omega), if_pos (show law = 2 by omega)]) | (rw [if_neg (show ¬ law = 0 by omega), if_neg (show ¬ law = 1 by omega), if_neg (show ¬ law = 2 by omega)])); first | (rw [if_pos (decide_eq_true (by omega))]) | (rw [if_neg (fun q => absurd (of_decide_eq_true q) (by omega))]), hG1⟩
    · refine e_iconst (pc' := 94) dX2_hold_93 rfl ?_
      refine e_goto (pc' := 98) dX2_hold_94 (by decide) ?_
      exact e_zret dX2_hold_98 rfl (by decide) ⟨rfl, Nat.le_refl _⟩ ⟨_, rfl, by unfold hdB b2i; (first | (rw [if_pos (show law = 0 by omega)]) | (rw [if_neg (show ¬ law = 0 by omega), if_neg (show ¬ law = 1 by omega), if_pos (show law = 2 by omega)]) | (rw [if_neg (show ¬ law = 0 by omega), if_neg (show ¬ law = 1 by omega), if_neg (show ¬ law = 2 by omega)])); first | (rw [if_pos (decide_eq_true (by omega))]) | (rw [if_neg (fun q => absurd (of_decide_eq_true q) (by omega))]), hG1⟩
  refine e_table (pc' := 99) (off := 86) dX2_hold_13 ⟨by omega, by omega⟩  (by rw [if_pos (by omega)]) (by decide) ?_
  refine e_iload (pc' := 101) dX2_hold_99 rfl rfl ?_
  refine e_ifI (pc' := 104) (t := 114) dX2_hold_101 (by decide) rfl ⟨by omega, by omega⟩ (fun (c2_4 : (a : Int) = 0) => ?_) (fun (c2_4 : ¬ ((a : Int) = 0)) => ?_)
  · refine e_iconst (pc' := 115) dX2_hold_114 rfl ?_
    refine e_goto (pc' := 119) dX2_hold_115 (by decide) ?_
    exact e_zret dX2_hold_119 rfl (by decide) ⟨rfl, Nat.le_refl _⟩ ⟨_, rfl, by unfold hdB b2i; (first | (rw [if_pos (show law = 0 by omega)]) | (rw [if_neg (show ¬ law = 0 by omega), if_neg (show ¬ law = 1 by omega), if_pos (show law = 2 by omega)]) | (rw [if_neg (show ¬ law = 0 by omega), if_neg (show ¬ law = 1 by omega), if_neg (show ¬ law = 2 by omega)])); first | (rw [if_pos (decide_eq_true (by omega))]) | (rw [if_neg (fun q => absurd (of_decide_eq_true q) (by omega))]), hG1⟩
  · refine e_iload (pc' := 106) dX2_hold_104 rfl rfl ?_
    refine e_ifI (pc' := 109) (t := 114) dX2_hold_106 (by decide) rfl ⟨by omega, by omega⟩ (fun (c4_5 : (b : Int) = 0) => ?_) (fun (c4_5 : ¬ ((b : Int) = 0)) => ?_)
    · refine e_iconst (pc' := 115) dX2_hold_114 rfl ?_
      refine e_goto (pc' := 119) dX2_hold_115 (by decide) ?_
      exact e_zret dX2_hold_119 rfl (by decide) ⟨rfl, Nat.le_refl _⟩ ⟨_, rfl, by unfold hdB b2i; (first | (rw [if_pos (show law = 0 by omega)]) | (rw [if_neg (show ¬ law = 0 by omega), if_neg (show ¬ law = 1 by omega), if_pos (show law = 2 by omega)]) | (rw [if_neg (show ¬ law = 0 by omega), if_neg (show ¬ law = 1 by omega), if_neg (show ¬ law = 2 by omega)])); first | (rw [if_pos (decide_eq_true (by omega))]) | (rw [if_neg (fun q => absurd (of_decide_eq_true q) (by omega))]), hG1⟩
    · refine e_iload (pc' := 111) dX2_hold_109 rfl rfl ?_
      refine e_ifI (pc' := 114) (t := 118) dX2_hold_111 (by decide) rfl ⟨by omega, by omega⟩ (fun (c6_6 : (v1 : Int) ≤ 0) => ?_) (fun (c6_6 : ¬ ((v1 : Int) ≤ 0)) => ?_)
      · refine e_iconst (pc' := 119) dX2_hold_118 rfl ?_
        exact e_zret dX2_hold_119 rfl (by decide) ⟨rfl, Nat.le_refl _⟩ ⟨_, rfl, by unfold hdB b2i; (first | (rw [if_pos (show law = 0 by omega)]) | (rw [if_neg (show ¬ law = 0 by omega), if_neg (show ¬ law = 1 by omega), if_pos (show law = 2 by omega)]) | (rw [if_neg (show ¬ law = 0 by omega), if_neg (show ¬ law = 1 by omega), if_neg (show ¬ law = 2 by omega)])); first | (rw [if_pos (decide_eq_true (by omega))]) | (rw [if_neg (fun q => absurd (of_decide_eq_true q) (by omega))]), hG1⟩
      · refine e_iconst (pc' := 115) dX2_hold_114 rfl ?_
        refine e_goto (pc' := 119) dX2_hold_115 (by decide) ?_
        exact e_zret dX2_hold_119 rfl (by decide) ⟨rfl, Nat.le_refl _⟩ ⟨_, rfl, by unfold hdB b2i; (first | (rw [if_pos (show law = 0 by omega)]) | (rw [if_neg (show ¬ law = 0 by omega), if_neg (show ¬ law = 1 by omega), if_pos (show law = 2 by omega)]) | (rw [if_neg (show ¬ law = 0 by omega), if_neg (show ¬ law = 1 by omega), if_neg (show ¬ law = 2 by omega)])); first | (rw [if_pos (decide_eq_true (by omega))]) | (rw [if_neg (fun q => absurd (of_decide_eq_true q) (by omega))]), hG1⟩
