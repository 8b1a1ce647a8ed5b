/-- gifts to a work, what the rule would add, as the ledger holds them -/
def gfS (σ : SG) (b : Nat) (w : Int) : Int := if w < σ.1 b 7 then smI (fun g => σ.1 (b + 5) (g * 3 + w)) (σ.1 b 6) else 0
def wdS (σ : SG) (b : Nat) (w : Int) : Int := if w < σ.1 b 7 then tlR σ b (saI (σ.1 (b + 5)) w (-1) (σ.1 b 6)) else 0
theorem tlR_rg (σ : SG) (b : Nat) (t : ST) : 0 ≤ tlR σ b t ∧ tlR σ b t ≤ 99 := tlS_rg _ _ _ _
theorem wdS_rg (σ : SG) (b : Nat) (w : Int) : 0 ≤ wdS σ b w ∧ wdS σ b w ≤ 99 := by
  unfold wdS
  split
  · exact tlR_rg _ _ _
  · decide
/-- the ledger is filled for a scene -/
def LgI (σ τ : SG) (b : Nat) : Prop := (∀ w, 0 ≤ w → w < 3 → τ.1 40 w = gfS σ b w ∧ τ.1 41 w = wdS σ b w ∧ τ.1 42 w = adS (σ.1 b 11) (σ.1 b 10) (wdS σ b) w) ∧ τ.1 39 4 = if wdS σ b 0 + wdS σ b 1 + wdS σ b 2 ≤ σ.1 b 10 then 0 else 1
theorem three_of {P : Int → Prop} (h0 : P 0) (h1 : P 1) (h2 : P 2) : ∀ w, 0 ≤ w → w < 3 → P w := by
  intro w a b
  have : w = 0 ∨ w = 1 ∨ w = 2 := by omega
  rcases this with rfl | rfl | rfl
  · exact h0
  · exact h1
  · exact h2

def SameSc (σ τ : SG) (b : Nat) : Prop := ∀ k, b ≤ k → k < b + 16 → τ.1 k = σ.1 k
theorem ScOK.cg {σ τ : SG} {b : Nat} (h : ScOK σ b) (e : SameSc σ τ b) : ScOK τ b := by
  unfold ScOK RlOK at *
  rw [e b (by omega) (by omega), e (b + 1) (by omega) (by omega), e (b + 2) (by omega) (by omega), e (b + 3) (by omega) (by omega), e (b + 4) (by omega) (by omega), e (b + 5) (by omega) (by omega), e (b + 7) (by omega) (by omega), e (b + 7 + 2) (by omega) (by omega), e (b + 10) (by omega) (by omega), e (b + 10 + 2) (by omega) (by omega), e (b + 13) (by omega) (by omega), e (b + 13 + 2) (by omega) (by omega)]
  exact h
theorem tlR_cg {σ τ : SG} {b : Nat} (h : ScOK σ b) (e : SameSc σ τ b) (t : ST) : tlR τ b t = tlR σ b t := by
  unfold tlR
  rw [e b (by omega) (by omega)]
  have h9 := h.2.2.2.1
  have hr : rcN b (σ.1 b 9) < b + 14 := by unfold rcN; omega
  have hr2 : b ≤ rcN b (σ.1 b 9) := by unfold rcN; omega
  rw [e _ hr2 (by omega), e (rcN b (σ.1 b 9) + 2) (by omega) (by omega)]
theorem gfS_cg {σ τ : SG} {b : Nat} (e : SameSc σ τ b) (w : Int) : gfS τ b w = gfS σ b w := by
  unfold gfS
  rw [e b (by omega) (by omega), e (b + 5) (by omega) (by omega)]
theorem wdS_cg {σ τ : SG} {b : Nat} (h : ScOK σ b) (e : SameSc σ τ b) (w : Int) : wdS τ b w = wdS σ b w := by
  unfold wdS
  rw [e b (by omega) (by omega), e (b + 5) (by omega) (by omega), tlR_cg h e]
theorem adS_cg {md p : Int} {u v : Int → Int} (h0 : u 0 = v 0) (h1 : u 1 = v 1) (h2 : u 2 = v 2) : ∀ w, 0 ≤ w → w < 3 → adS md p u w = adS md p v w := by
  have hb : ∀ n, bN p u n = bN p v n := by
    intro n
    induction n with
    | zero => rfl
    | succ n ih =>
      show bst p u (bN p u n) = bst p v (bN p v n)
      rw [ih]
      unfold bst opn spr
      rw [h0, h1, h2]
  have hs : ∀ w, u w = v w → adS md p u w = adS md p v w := by
    intro w hw
    unfold adS
    rw [h0, h1, h2, hw, hb 3]
  exact three_of (hs 0 h0) (hs 1 h1) (hs 2 h2)

theorem sameSc_1 {σ τ : SG} (h : Fr [37, 38, 39, 40, 41, 42] σ τ) : SameSc σ τ 1 := fun k h1 h2 => (h k (by simp only [List.mem_cons, List.not_mem_nil, or_false]; omega)).1

set_option maxHeartbeats 4000000 in
set_option maxRecDepth 100000 in
theorem l_fill_1_0 {X : AX} {d : Nat} {σ : SG} (ho : ScOK σ 1) (h9 : σ.1 1 9 = 0) : ∀ (k : Nat) (i : Int) (τ : SG), 0 ≤ i → i ≤ σ.1 1 7 → σ.1 1 7 - i < k → (∀ j, 0 ≤ j → j < 3 → τ.1 40 j = (if j < i then gfS σ 1 j else 0) ∧ τ.1 41 j = (if j < i then wdS σ 1 j else 0)) → Fr [37, 38, 39, 40, 41, 42] σ τ → Ev X 0 0 (d + 3) mX3_fill 29 [some (rv 39), some (rv 1), some (iv i)] [] τ (QV (fun σ' => LgI σ σ' 1 ∧ Fr [37, 38, 39, 40, 41, 42] σ σ')) := by
  intro k
  induction k with
  | zero => intros; omega
  | succ k ih =>
  intro i τ hi0 hi1 hik hI hF
  have hoτ : ScOK τ 1 := ho.cg (sameSc_1 hF)
  have e1 : τ.1 1 = σ.1 1 := (hF 1 (by decide)).1
  have e5 : τ.1 6 = σ.1 6 := (hF 6 (by decide)).1
  have h7 := ho.2.1
  have h9r := ho.2.2.2.1
  refine e_iload_n (pc' := 30) dX3_fill_29 rfl rfl ?_
  refine e_aload_n (pc' := 31) dX3_fill_30 rfl rfl ?_
  refine e_getI (pc' := 34) (v := (σ.1 1 7)) dX3_fill_31 rfl f_3_25 h_1 rfl ((congrFun (hF 1 (by decide)).1 7).trans rfl) ?_
  refine e_icmpI (pc' := 37) (t := 86) dX3_fill_34 (by decide) rfl ⟨by omega, by omega⟩ ⟨by omega, by omega⟩ (fun (c2_1 : (σ.1 1 7) ≤ (i : Int)) => ?_) (fun (c2_1 : ¬ ((σ.1 1 7) ≤ (i : Int))) => ?_)
  · refine e_aload_n (pc' := 87) dX3_fill_86 rfl rfl ?_
    refine e_aload_n (pc' := 88) dX3_fill_87 rfl rfl ?_
    refine e_cv1v (pc' := 91) dX3_fill_88 rfl k_3_52 h_39 rfl (Nat.le_of_ble_eq_true rfl) rfl rfl ⟨rfl, rfl⟩ ⟨Nat.zero_le _, Nat.zero_le _⟩ (s_partPurse_1 (by rw [(hI 0 (by decide) (by decide)).2]; split <;> first | exact wdS_rg _ _ _ | decide) (by rw [(hI 1 (by decide) (by decide)).2]; split <;> first | exact wdS_rg _ _ _ | decide) (by rw [(hI 2 (by decide) (by decide)).2]; split <;> first | exact wdS_rg _ _ _ | decide) hoτ.2.2.2.2.1 hoτ.2.2.2.2.2.1) ?_
    rintro τ4 ⟨h3, h4, hG4⟩
    exact e_vret dX3_fill_91 rfl ⟨rfl, Nat.le_refl _⟩ (by
    have hw : ∀ j, 0 ≤ j → j < 3 → τ.1 40 j = gfS σ 1 j ∧ τ.1 41 j = wdS σ 1 j := by
      intro j a c
      have hj := hI j a c
      by_cases hlt : j < i
      · rw [if_pos hlt, if_pos hlt] at hj; exact hj
      · rw [if_neg hlt, if_neg hlt] at hj
        unfold gfS wdS
        rw [if_neg (by omega), if_neg (by omega)]; exact hj
    have w0 := (hw 0 (by decide) (by decide)).2
    have w1 := (hw 1 (by decide) (by decide)).2
    have w2 := (hw 2 (by decide) (by decide)).2
    have ea := adS_cg (md := σ.1 1 11) (p := σ.1 1 10) w0 w1 w2
    rw [e1] at h3 h4
    rw [w0, w1, w2] at h4
    refine ⟨rfl, ⟨three_of ⟨?_, ?_, h3.1.trans (ea 0 (by decide) (by decide))⟩ ⟨?_, ?_, h3.2.1.trans (ea 1 (by decide) (by decide))⟩ ⟨?_, ?_, h3.2.2.trans (ea 2 (by decide) (by decide))⟩, ?_⟩, hF.tr (hG4.mono (by decide))⟩
    · exact (congrFun (hG4 40 (by decide)).1 0).trans (hw 0 (by decide) (by decide)).1
    · exact (congrFun (hG4 41 (by decide)).1 0).trans w0
    · exact (congrFun (hG4 40 (by decide)).1 1).trans (hw 1 (by decide) (by decide)).1
    · exact (congrFun (hG4 41 (by decide)).1 1).trans w1
    · exact (congrFun (hG4 40 (by decide)).1 2).trans (hw 2 (by decide) (by decide)).1
    · exact (congrFun (hG4 41 (by decide)).1 2).trans w2
    · rw [h4]
      by_cases hq : wdS σ 1 0 + wdS σ 1 1 + wdS σ 1 2 ≤ σ.1 1 10
      · rw [if_pos hq, if_pos (by omega)]
      · rw [if_neg hq, if_neg (by omega)])
  · refine e_aload_n (pc' := 38) dX3_fill_37 rfl rfl ?_
    refine e_getR (pc' := 41) dX3_fill_38 rfl f_3_21 h_39 rfl ?_
    refine e_aload_n (pc' := 42) dX3_fill_41 rfl rfl ?_
    refine e_iload_n (pc' := 43) dX3_fill_42 rfl rfl ?_
    refine e_iconst (pc' := 44) dX3_fill_43 rfl ?_
    refine e_cv3v (pc' := 47) dX3_fill_44 rfl k_3_31 h_37 rfl (Nat.le_of_ble_eq_true rfl) rfl rfl ⟨rfl, rfl⟩ ⟨Nat.zero_le _, Nat.zero_le _⟩ (s_seeAllBut_1 hoτ.1 hoτ.2.2.2.2.2.2.1 i (-1) ⟨by omega, by omega⟩ ⟨by omega, by omega⟩) ?_
    rintro τ1 ⟨hS1, hG1⟩
    rw [e1, e5] at hS1
    have hF1 : Fr [37, 38, 39, 40, 41, 42] σ τ1 := hF.tr (hG1.mono (by decide))
    have hoτ1 : ScOK τ1 1 := ho.cg (sameSc_1 hF1)
    have e1' : τ1.1 1 = σ.1 1 := (hF1 1 (by decide)).1
    have e5' : τ1.1 6 = σ.1 6 := (hF1 6 (by decide)).1
    refine e_aload_n (pc' := 48) dX3_fill_47 rfl rfl ?_
    refine e_getR (pc' := 51) dX3_fill_48 rfl f_3_9 h_39 rfl ?_
    refine e_iload_n (pc' := 52) dX3_fill_51 rfl rfl ?_
    refine e_aload_n (pc' := 53) dX3_fill_52 rfl rfl ?_
    refine e_iload_n (pc' := 54) dX3_fill_53 rfl rfl ?_
    refine e_cv1i (pc' := 57) dX3_fill_54 rfl k_3_37 h_1 rfl (Nat.le_of_ble_eq_true rfl) rfl rfl ⟨rfl, rfl⟩ ⟨Nat.zero_le _, Nat.zero_le _⟩ (s_givenTo_1 hoτ1.1 i ⟨by omega, by omega⟩) ?_
    intro r σ' hr; rw [hr.1, hr.2]; clear hr
    rw [e1', e5']
    refine e_iast (pc' := 58) dX3_fill_57 rfl h_40 (by decide) (by omega) (by omega) ?_
    have hF2 : Fr [37, 38, 39, 40, 41, 42] σ (upI τ1 40 i (smI (fun g => σ.1 6 (g * 3 + i)) (σ.1 1 6))) := fr_I hF1 (by decide)
    have hoτ2 : ScOK (upI τ1 40 i (smI (fun g => σ.1 6 (g * 3 + i)) (σ.1 1 6))) 1 := ho.cg (sameSc_1 hF2)
    have h9τ : ((upI τ1 40 i (smI (fun g => σ.1 6 (g * 3 + i)) (σ.1 1 6)))).1 1 9 = 0 := (congrFun (hF2 1 (by decide)).1 9).trans h9
    refine e_aload_n (pc' := 59) dX3_fill_58 rfl rfl ?_
    refine e_getR (pc' := 62) dX3_fill_59 rfl f_3_15 h_39 rfl ?_
    refine e_iload_n (pc' := 63) dX3_fill_62 rfl rfl ?_
    refine e_aload_n (pc' := 64) dX3_fill_63 rfl rfl ?_
    refine e_getR (pc' := 67) dX3_fill_64 rfl f_3_21 h_39 rfl ?_
    refine e_aload_n (pc' := 68) dX3_fill_67 rfl rfl ?_
    refine e_getR (pc' := 71) dX3_fill_68 rfl f_3_41 h_1 rfl ?_
    refine e_aload_n (pc' := 72) dX3_fill_71 rfl rfl ?_
    refine e_getI (pc' := 75) (v := (σ.1 1 9)) dX3_fill_72 rfl f_3_45 h_1 rfl ((congrFun (hF1 1 (by decide)).1 9).trans rfl) ?_
    refine e_aald (pc' := 76) (k := 8) dX3_fill_75 rfl h_7 (by decide) (by decide) (by omega) (by omega) (by rw [h9]; rfl) ?_
    refine e_cv1i (pc' := 79) dX3_fill_76 rfl k_3_48 h_37 rfl (Nat.le_of_ble_eq_true rfl) rfl rfl ⟨rfl, rfl⟩ ⟨Nat.zero_le _, Nat.zero_le _⟩ (s_told_1_0 (σ := (upI τ1 40 i (smI (fun g => σ.1 6 (g * 3 + i)) (σ.1 1 6)))) hoτ2 h9τ (saI (σ.1 6) i (-1) (σ.1 1 6)) hS1 (saI_R _ _ _ (by have := ho.1; omega))) ?_
    rintro r3 τ3 ⟨hr3, hG3⟩
    rw [tlR_cg ho (sameSc_1 hF2)] at hr3
    subst hr3
    have hF3 : Fr [37, 38, 39, 40, 41, 42] σ τ3 := hF2.tr (hG3.mono (by decide))
    refine e_iast (pc' := 80) dX3_fill_79 rfl h_41 (by decide) (by omega) (by omega) ?_
    refine e_iinc (pc' := 83) (L' := [some (rv 39), some (rv 1), some (iv (i + 1))]) dX3_fill_80 rfl rfl (by decide) rfl ?_
    refine e_goto (pc' := 29) dX3_fill_83 (by decide) ?_
    refine ih _ _ (by omega) (by omega) (by omega) (fun j hj0 hj3 => ?_) (fr_I hF3 (by decide))
    have g40 : τ3.1 40 = (upI τ1 40 i _).1 40 := (hG3 40 (by decide)).1
    have g41 : τ3.1 41 = (upI τ1 40 i _).1 41 := (hG3 41 (by decide)).1
    have q40 : τ1.1 40 = τ.1 40 := (hG1 40 (by decide)).1
    have q41 : τ1.1 41 = τ.1 41 := (hG1 41 (by decide)).1
    have hj := hI j hj0 hj3
    refine ⟨?_, ?_⟩
    · show τ3.1 40 j = _
      rw [g40]
      show (if 40 = 40 ∧ j = i then _ else τ1.1 40 j) = _
      rw [q40]
      by_cases hji : j = i
      · rw [if_pos ⟨rfl, hji⟩, if_pos (by omega), hji]
        unfold gfS
        rw [if_pos (by omega)]
      · rw [if_neg (fun q => hji q.2), hj.1]
        by_cases hlt : j < i
        · rw [if_pos hlt, if_pos (by omega)]
        · rw [if_neg hlt, if_neg (by omega)]
    · show (if 41 = 41 ∧ j = i then _ else τ3.1 41 j) = _
      rw [g41]
      show (if 41 = 41 ∧ j = i then _ else τ1.1 41 j) = _
      rw [q41]
      by_cases hji : j = i
      · rw [if_pos ⟨rfl, hji⟩, if_pos (by omega), hji]
        unfold wdS
        rw [if_pos (by omega)]
      · rw [if_neg (fun q => hji q.2), hj.2]
        by_cases hlt : j < i
        · rw [if_pos hlt, if_pos (by omega)]
        · rw [if_neg hlt, if_neg (by omega)]

set_option maxHeartbeats 4000000 in
set_option maxRecDepth 100000 in
theorem l_fill_1_1 {X : AX} {d : Nat} {σ : SG} (ho : ScOK σ 1) (h9 : σ.1 1 9 = 1) : ∀ (k : Nat) (i : Int) (τ : SG), 0 ≤ i → i ≤ σ.1 1 7 → σ.1 1 7 - i < k → (∀ j, 0 ≤ j → j < 3 → τ.1 40 j = (if j < i then gfS σ 1 j else 0) ∧ τ.1 41 j = (if j < i then wdS σ 1 j else 0)) → Fr [37, 38, 39, 40, 41, 42] σ τ → Ev X 0 0 (d + 3) mX3_fill 29 [some (rv 39), some (rv 1), some (iv i)] [] τ (QV (fun σ' => LgI σ σ' 1 ∧ Fr [37, 38, 39, 40, 41, 42] σ σ')) := by
  intro k
  induction k with
  | zero => intros; omega
  | succ k ih =>
  intro i τ hi0 hi1 hik hI hF
  have hoτ : ScOK τ 1 := ho.cg (sameSc_1 hF)
  have e1 : τ.1 1 = σ.1 1 := (hF 1 (by decide)).1
  have e5 : τ.1 6 = σ.1 6 := (hF 6 (by decide)).1
  have h7 := ho.2.1
  have h9r := ho.2.2.2.1
  refine e_iload_n (pc' := 30) dX3_fill_29 rfl rfl ?_
  refine e_aload_n (pc' := 31) dX3_fill_30 rfl rfl ?_
  refine e_getI (pc' := 34) (v := (σ.1 1 7)) dX3_fill_31 rfl f_3_25 h_1 rfl ((congrFun (hF 1 (by decide)).1 7).trans rfl) ?_
  refine e_icmpI (pc' := 37) (t := 86) dX3_fill_34 (by decide) rfl ⟨by omega, by omega⟩ ⟨by omega, by omega⟩ (fun (c2_1 : (σ.1 1 7) ≤ (i : Int)) => ?_) (fun (c2_1 : ¬ ((σ.1 1 7) ≤ (i : Int))) => ?_)
  · refine e_aload_n (pc' := 87) dX3_fill_86 rfl rfl ?_
    refine e_aload_n (pc' := 88) dX3_fill_87 rfl rfl ?_
    refine e_cv1v (pc' := 91) dX3_fill_88 rfl k_3_52 h_39 rfl (Nat.le_of_ble_eq_true rfl) rfl rfl ⟨rfl, rfl⟩ ⟨Nat.zero_le _, Nat.zero_le _⟩ (s_partPurse_1 (by rw [(hI 0 (by decide) (by decide)).2]; split <;> first | exact wdS_rg _ _ _ | decide) (by rw [(hI 1 (by decide) (by decide)).2]; split <;> first | exact wdS_rg _ _ _ | decide) (by rw [(hI 2 (by decide) (by decide)).2]; split <;> first | exact wdS_rg _ _ _ | decide) hoτ.2.2.2.2.1 hoτ.2.2.2.2.2.1) ?_
    rintro τ4 ⟨h3, h4, hG4⟩
    exact e_vret dX3_fill_91 rfl ⟨rfl, Nat.le_refl _⟩ (by
    have hw : ∀ j, 0 ≤ j → j < 3 → τ.1 40 j = gfS σ 1 j ∧ τ.1 41 j = wdS σ 1 j := by
      intro j a c
      have hj := hI j a c
      by_cases hlt : j < i
      · rw [if_pos hlt, if_pos hlt] at hj; exact hj
      · rw [if_neg hlt, if_neg hlt] at hj
        unfold gfS wdS
        rw [if_neg (by omega), if_neg (by omega)]; exact hj
    have w0 := (hw 0 (by decide) (by decide)).2
    have w1 := (hw 1 (by decide) (by decide)).2
    have w2 := (hw 2 (by decide) (by decide)).2
    have ea := adS_cg (md := σ.1 1 11) (p := σ.1 1 10) w0 w1 w2
    rw [e1] at h3 h4
    rw [w0, w1, w2] at h4
    refine ⟨rfl, ⟨three_of ⟨?_, ?_, h3.1.trans (ea 0 (by decide) (by decide))⟩ ⟨?_, ?_, h3.2.1.trans (ea 1 (by decide) (by decide))⟩ ⟨?_, ?_, h3.2.2.trans (ea 2 (by decide) (by decide))⟩, ?_⟩, hF.tr (hG4.mono (by decide))⟩
    · exact (congrFun (hG4 40 (by decide)).1 0).trans (hw 0 (by decide) (by decide)).1
    · exact (congrFun (hG4 41 (by decide)).1 0).trans w0
    · exact (congrFun (hG4 40 (by decide)).1 1).trans (hw 1 (by decide) (by decide)).1
    · exact (congrFun (hG4 41 (by decide)).1 1).trans w1
    · exact (congrFun (hG4 40 (by decide)).1 2).trans (hw 2 (by decide) (by decide)).1
    · exact (congrFun (hG4 41 (by decide)).1 2).trans w2
    · rw [h4]
      by_cases hq : wdS σ 1 0 + wdS σ 1 1 + wdS σ 1 2 ≤ σ.1 1 10
      · rw [if_pos hq, if_pos (by omega)]
      · rw [if_neg hq, if_neg (by omega)])
  · refine e_aload_n (pc' := 38) dX3_fill_37 rfl rfl ?_
    refine e_getR (pc' := 41) dX3_fill_38 rfl f_3_21 h_39 rfl ?_
    refine e_aload_n (pc' := 42) dX3_fill_41 rfl rfl ?_
    refine e_iload_n (pc' := 43) dX3_fill_42 rfl rfl ?_
    refine e_iconst (pc' := 44) dX3_fill_43 rfl ?_
    refine e_cv3v (pc' := 47) dX3_fill_44 rfl k_3_31 h_37 rfl (Nat.le_of_ble_eq_true rfl) rfl rfl ⟨rfl, rfl⟩ ⟨Nat.zero_le _, Nat.zero_le _⟩ (s_seeAllBut_1 hoτ.1 hoτ.2.2.2.2.2.2.1 i (-1) ⟨by omega, by omega⟩ ⟨by omega, by omega⟩) ?_
    rintro τ1 ⟨hS1, hG1⟩
    rw [e1, e5] at hS1
    have hF1 : Fr [37, 38, 39, 40, 41, 42] σ τ1 := hF.tr (hG1.mono (by decide))
    have hoτ1 : ScOK τ1 1 := ho.cg (sameSc_1 hF1)
    have e1' : τ1.1 1 = σ.1 1 := (hF1 1 (by decide)).1
    have e5' : τ1.1 6 = σ.1 6 := (hF1 6 (by decide)).1
    refine e_aload_n (pc' := 48) dX3_fill_47 rfl rfl ?_
    refine e_getR (pc' := 51) dX3_fill_48 rfl f_3_9 h_39 rfl ?_
    refine e_iload_n (pc' := 52) dX3_fill_51 rfl rfl ?_
    refine e_aload_n (pc' := 53) dX3_fill_52 rfl rfl ?_
    refine e_iload_n (pc' := 54) dX3_fill_53 rfl rfl ?_
    refine e_cv1i (pc' := 57) dX3_fill_54 rfl k_3_37 h_1 rfl (Nat.le_of_ble_eq_true rfl) rfl rfl ⟨rfl, rfl⟩ ⟨Nat.zero_le _, Nat.zero_le _⟩ (s_givenTo_1 hoτ1.1 i ⟨by omega, by omega⟩) ?_
    intro r σ' hr; rw [hr.1, hr.2]; clear hr
    rw [e1', e5']
    refine e_iast (pc' := 58) dX3_fill_57 rfl h_40 (by decide) (by omega) (by omega) ?_
    have hF2 : Fr [37, 38, 39, 40, 41, 42] σ (upI τ1 40 i (smI (fun g => σ.1 6 (g * 3 + i)) (σ.1 1 6))) := fr_I hF1 (by decide)
    have hoτ2 : ScOK (upI τ1 40 i (smI (fun g => σ.1 6 (g * 3 + i)) (σ.1 1 6))) 1 := ho.cg (sameSc_1 hF2)
    have h9τ : ((upI τ1 40 i (smI (fun g => σ.1 6 (g * 3 + i)) (σ.1 1 6)))).1 1 9 = 1 := (congrFun (hF2 1 (by decide)).1 9).trans h9
    refine e_aload_n (pc' := 59) dX3_fill_58 rfl rfl ?_
    refine e_getR (pc' := 62) dX3_fill_59 rfl f_3_15 h_39 rfl ?_
    refine e_iload_n (pc' := 63) dX3_fill_62 rfl rfl ?_
    refine e_aload_n (pc' := 64) dX3_fill_63 rfl rfl ?_
    refine e_getR (pc' := 67) dX3_fill_64 rfl f_3_21 h_39 rfl ?_
    refine e_aload_n (pc' := 68) dX3_fill_67 rfl rfl ?_
    refine e_getR (pc' := 71) dX3_fill_68 rfl f_3_41 h_1 rfl ?_
    refine e_aload_n (pc' := 72) dX3_fill_71 rfl rfl ?_
    refine e_getI (pc' := 75) (v := (σ.1 1 9)) dX3_fill_72 rfl f_3_45 h_1 rfl ((congrFun (hF1 1 (by decide)).1 9).trans rfl) ?_
    refine e_aald (pc' := 76) (k := 11) dX3_fill_75 rfl h_7 (by decide) (by decide) (by omega) (by omega) (by rw [h9]; rfl) ?_
    refine e_cv1i (pc' := 79) dX3_fill_76 rfl k_3_48 h_37 rfl (Nat.le_of_ble_eq_true rfl) rfl rfl ⟨rfl, rfl⟩ ⟨Nat.zero_le _, Nat.zero_le _⟩ (s_told_1_1 (σ := (upI τ1 40 i (smI (fun g => σ.1 6 (g * 3 + i)) (σ.1 1 6)))) hoτ2 h9τ (saI (σ.1 6) i (-1) (σ.1 1 6)) hS1 (saI_R _ _ _ (by have := ho.1; omega))) ?_
    rintro r3 τ3 ⟨hr3, hG3⟩
    rw [tlR_cg ho (sameSc_1 hF2)] at hr3
    subst hr3
    have hF3 : Fr [37, 38, 39, 40, 41, 42] σ τ3 := hF2.tr (hG3.mono (by decide))
    refine e_iast (pc' := 80) dX3_fill_79 rfl h_41 (by decide) (by omega) (by omega) ?_
    refine e_iinc (pc' := 83) (L' := [some (rv 39), some (rv 1), some (iv (i + 1))]) dX3_fill_80 rfl rfl (by decide) rfl ?_
    refine e_goto (pc' := 29) dX3_fill_83 (by decide) ?_
    refine ih _ _ (by omega) (by omega) (by omega) (fun j hj0 hj3 => ?_) (fr_I hF3 (by decide))
    have g40 : τ3.1 40 = (upI τ1 40 i _).1 40 := (hG3 40 (by decide)).1
    have g41 : τ3.1 41 = (upI τ1 40 i _).1 41 := (hG3 41 (by decide)).1
    have q40 : τ1.1 40 = τ.1 40 := (hG1 40 (by decide)).1
    have q41 : τ1.1 41 = τ.1 41 := (hG1 41 (by decide)).1
    have hj := hI j hj0 hj3
    refine ⟨?_, ?_⟩
    · show τ3.1 40 j = _
      rw [g40]
      show (if 40 = 40 ∧ j = i then _ else τ1.1 40 j) = _
      rw [q40]
      by_cases hji : j = i
      · rw [if_pos ⟨rfl, hji⟩, if_pos (by omega), hji]
        unfold gfS
        rw [if_pos (by omega)]
      · rw [if_neg (fun q => hji q.2), hj.1]
        by_cases hlt : j < i
        · rw [if_pos hlt, if_pos (by omega)]
        · rw [if_neg hlt, if_neg (by omega)]
    · show (if 41 = 41 ∧ j = i then _ else τ3.1 41 j) = _
      rw [g41]
      show (if 41 = 41 ∧ j = i then _ else τ1.1 41 j) = _
      rw [q41]
      by_cases hji : j = i
      · rw [if_pos ⟨rfl, hji⟩, if_pos (by omega), hji]
        unfold wdS
        rw [if_pos (by omega)]
      · rw [if_neg (fun q => hji q.2), hj.2]
        by_cases hlt : j < i
        · rw [if_pos hlt, if_pos (by omega)]
        · rw [if_neg hlt, if_neg (by omega)]

set_option maxHeartbeats 4000000 in
set_option maxRecDepth 100000 in
theorem l_fill_1_2 {X : AX} {d : Nat} {σ : SG} (ho : ScOK σ 1) (h9 : σ.1 1 9 = 2) : ∀ (k : Nat) (i : Int) (τ : SG), 0 ≤ i → i ≤ σ.1 1 7 → σ.1 1 7 - i < k → (∀ j, 0 ≤ j → j < 3 → τ.1 40 j = (if j < i then gfS σ 1 j else 0) ∧ τ.1 41 j = (if j < i then wdS σ 1 j else 0)) → Fr [37, 38, 39, 40, 41, 42] σ τ → Ev X 0 0 (d + 3) mX3_fill 29 [some (rv 39), some (rv 1), some (iv i)] [] τ (QV (fun σ' => LgI σ σ' 1 ∧ Fr [37, 38, 39, 40, 41, 42] σ σ')) := by
  intro k
  induction k with
  | zero => intros; omega
  | succ k ih =>
  intro i τ hi0 hi1 hik hI hF
  have hoτ : ScOK τ 1 := ho.cg (sameSc_1 hF)
  have e1 : τ.1 1 = σ.1 1 := (hF 1 (by decide)).1
  have e5 : τ.1 6 = σ.1 6 := (hF 6 (by decide)).1
  have h7 := ho.2.1
  have h9r := ho.2.2.2.1
  refine e_iload_n (pc' := 30) dX3_fill_29 rfl rfl ?_
  refine e_aload_n (pc' := 31) dX3_fill_30 rfl rfl ?_
  refine e_getI (pc' := 34) (v := (σ.1 1 7)) dX3_fill_31 rfl f_3_25 h_1 rfl ((congrFun (hF 1 (by decide)).1 7).trans rfl) ?_
  refine e_icmpI (pc' := 37) (t := 86) dX3_fill_34 (by decide) rfl ⟨by omega, by omega⟩ ⟨by omega, by omega⟩ (fun (c2_1 : (σ.1 1 7) ≤ (i : Int)) => ?_) (fun (c2_1 : ¬ ((σ.1 1 7) ≤ (i : Int))) => ?_)
  · refine e_aload_n (pc' := 87) dX3_fill_86 rfl rfl ?_
    refine e_aload_n (pc' := 88) dX3_fill_87 rfl rfl ?_
    refine e_cv1v (pc' := 91) dX3_fill_88 rfl k_3_52 h_39 rfl (Nat.le_of_ble_eq_true rfl) rfl rfl ⟨rfl, rfl⟩ ⟨Nat.zero_le _, Nat.zero_le _⟩ (s_partPurse_1 (by rw [(hI 0 (by decide) (by decide)).2]; split <;> first | exact wdS_rg _ _ _ | decide) (by rw [(hI 1 (by decide) (by decide)).2]; split <;> first | exact wdS_rg _ _ _ | decide) (by rw [(hI 2 (by decide) (by decide)).2]; split <;> first | exact wdS_rg _ _ _ | decide) hoτ.2.2.2.2.1 hoτ.2.2.2.2.2.1) ?_
    rintro τ4 ⟨h3, h4, hG4⟩
    exact e_vret dX3_fill_91 rfl ⟨rfl, Nat.le_refl _⟩ (by
    have hw : ∀ j, 0 ≤ j → j < 3 → τ.1 40 j = gfS σ 1 j ∧ τ.1 41 j = wdS σ 1 j := by
      intro j a c
      have hj := hI j a c
      by_cases hlt : j < i
      · rw [if_pos hlt, if_pos hlt] at hj; exact hj
      · rw [if_neg hlt, if_neg hlt] at hj
        unfold gfS wdS
        rw [if_neg (by omega), if_neg (by omega)]; exact hj
    have w0 := (hw 0 (by decide) (by decide)).2
    have w1 := (hw 1 (by decide) (by decide)).2
    have w2 := (hw 2 (by decide) (by decide)).2
    have ea := adS_cg (md := σ.1 1 11) (p := σ.1 1 10) w0 w1 w2
    rw [e1] at h3 h4
    rw [w0, w1, w2] at h4
    refine ⟨rfl, ⟨three_of ⟨?_, ?_, h3.1.trans (ea 0 (by decide) (by decide))⟩ ⟨?_, ?_, h3.2.1.trans (ea 1 (by decide) (by decide))⟩ ⟨?_, ?_, h3.2.2.trans (ea 2 (by decide) (by decide))⟩, ?_⟩, hF.tr (hG4.mono (by decide))⟩
    · exact (congrFun (hG4 40 (by decide)).1 0).trans (hw 0 (by decide) (by decide)).1
    · exact (congrFun (hG4 41 (by decide)).1 0).trans w0
    · exact (congrFun (hG4 40 (by decide)).1 1).trans (hw 1 (by decide) (by decide)).1
    · exact (congrFun (hG4 41 (by decide)).1 1).trans w1
    · exact (congrFun (hG4 40 (by decide)).1 2).trans (hw 2 (by decide) (by decide)).1
    · exact (congrFun (hG4 41 (by decide)).1 2).trans w2
    · rw [h4]
      by_cases hq : wdS σ 1 0 + wdS σ 1 1 + wdS σ 1 2 ≤ σ.1 1 10
      · rw [if_pos hq, if_pos (by omega)]
      · rw [if_neg hq, if_neg (by omega)])
  · refine e_aload_n (pc' := 38) dX3_fill_37 rfl rfl ?_
    refine e_getR (pc' := 41) dX3_fill_38 rfl f_3_21 h_39 rfl ?_
    refine e_aload_n (pc' := 42) dX3_fill_41 rfl rfl ?_
    refine e_iload_n (pc' := 43) dX3_fill_42 rfl rfl ?_
    refine e_iconst (pc' := 44) dX3_fill_43 rfl ?_
    refine e_cv3v (pc' := 47) dX3_fill_44 rfl k_3_31 h_37 rfl (Nat.le_of_ble_eq_true rfl) rfl rfl ⟨rfl, rfl⟩ ⟨Nat.zero_le _, Nat.zero_le _⟩ (s_seeAllBut_1 hoτ.1 hoτ.2.2.2.2.2.2.1 i (-1) ⟨by omega, by omega⟩ ⟨by omega, by omega⟩) ?_
    rintro τ1 ⟨hS1, hG1⟩
    rw [e1, e5] at hS1
    have hF1 : Fr [37, 38, 39, 40, 41, 42] σ τ1 := hF.tr (hG1.mono (by decide))
    have hoτ1 : ScOK τ1 1 := ho.cg (sameSc_1 hF1)
    have e1' : τ1.1 1 = σ.1 1 := (hF1 1 (by decide)).1
    have e5' : τ1.1 6 = σ.1 6 := (hF1 6 (by decide)).1
    refine e_aload_n (pc' := 48) dX3_fill_47 rfl rfl ?_
    refine e_getR (pc' := 51) dX3_fill_48 rfl f_3_9 h_39 rfl ?_
    refine e_iload_n (pc' := 52) dX3_fill_51 rfl rfl ?_
    refine e_aload_n (pc' := 53) dX3_fill_52 rfl rfl ?_
    refine e_iload_n (pc' := 54) dX3_fill_53 rfl rfl ?_
    refine e_cv1i (pc' := 57) dX3_fill_54 rfl k_3_37 h_1 rfl (Nat.le_of_ble_eq_true rfl) rfl rfl ⟨rfl, rfl⟩ ⟨Nat.zero_le _, Nat.zero_le _⟩ (s_givenTo_1 hoτ1.1 i ⟨by omega, by omega⟩) ?_
    intro r σ' hr; rw [hr.1, hr.2]; clear hr
    rw [e1', e5']
    refine e_iast (pc' := 58) dX3_fill_57 rfl h_40 (by decide) (by omega) (by omega) ?_
    have hF2 : Fr [37, 38, 39, 40, 41, 42] σ (upI τ1 40 i (smI (fun g => σ.1 6 (g * 3 + i)) (σ.1 1 6))) := fr_I hF1 (by decide)
    have hoτ2 : ScOK (upI τ1 40 i (smI (fun g => σ.1 6 (g * 3 + i)) (σ.1 1 6))) 1 := ho.cg (sameSc_1 hF2)
    have h9τ : ((upI τ1 40 i (smI (fun g => σ.1 6 (g * 3 + i)) (σ.1 1 6)))).1 1 9 = 2 := (congrFun (hF2 1 (by decide)).1 9).trans h9
    refine e_aload_n (pc' := 59) dX3_fill_58 rfl rfl ?_
    refine e_getR (pc' := 62) dX3_fill_59 rfl f_3_15 h_39 rfl ?_
    refine e_iload_n (pc' := 63) dX3_fill_62 rfl rfl ?_
    refine e_aload_n (pc' := 64) dX3_fill_63 rfl rfl ?_
    refine e_getR (pc' := 67) dX3_fill_64 rfl f_3_21 h_39 rfl ?_
    refine e_aload_n (pc' := 68) dX3_fill_67 rfl rfl ?_
    refine e_getR (pc' := 71) dX3_fill_68 rfl f_3_41 h_1 rfl ?_
    refine e_aload_n (pc' := 72) dX3_fill_71 rfl rfl ?_
    refine e_getI (pc' := 75) (v := (σ.1 1 9)) dX3_fill_72 rfl f_3_45 h_1 rfl ((congrFun (hF1 1 (by decide)).1 9).trans rfl) ?_
    refine e_aald (pc' := 76) (k := 14) dX3_fill_75 rfl h_7 (by decide) (by decide) (by omega) (by omega) (by rw [h9]; rfl) ?_
    refine e_cv1i (pc' := 79) dX3_fill_76 rfl k_3_48 h_37 rfl (Nat.le_of_ble_eq_true rfl) rfl rfl ⟨rfl, rfl⟩ ⟨Nat.zero_le _, Nat.zero_le _⟩ (s_told_1_2 (σ := (upI τ1 40 i (smI (fun g => σ.1 6 (g * 3 + i)) (σ.1 1 6)))) hoτ2 h9τ (saI (σ.1 6) i (-1) (σ.1 1 6)) hS1 (saI_R _ _ _ (by have := ho.1; omega))) ?_
    rintro r3 τ3 ⟨hr3, hG3⟩
    rw [tlR_cg ho (sameSc_1 hF2)] at hr3
    subst hr3
    have hF3 : Fr [37, 38, 39, 40, 41, 42] σ τ3 := hF2.tr (hG3.mono (by decide))
    refine e_iast (pc' := 80) dX3_fill_79 rfl h_41 (by decide) (by omega) (by omega) ?_
    refine e_iinc (pc' := 83) (L' := [some (rv 39), some (rv 1), some (iv (i + 1))]) dX3_fill_80 rfl rfl (by decide) rfl ?_
    refine e_goto (pc' := 29) dX3_fill_83 (by decide) ?_
    refine ih _ _ (by omega) (by omega) (by omega) (fun j hj0 hj3 => ?_) (fr_I hF3 (by decide))
    have g40 : τ3.1 40 = (upI τ1 40 i _).1 40 := (hG3 40 (by decide)).1
    have g41 : τ3.1 41 = (upI τ1 40 i _).1 41 := (hG3 41 (by decide)).1
    have q40 : τ1.1 40 = τ.1 40 := (hG1 40 (by decide)).1
    have q41 : τ1.1 41 = τ.1 41 := (hG1 41 (by decide)).1
    have hj := hI j hj0 hj3
    refine ⟨?_, ?_⟩
    · show τ3.1 40 j = _
      rw [g40]
      show (if 40 = 40 ∧ j = i then _ else τ1.1 40 j) = _
      rw [q40]
      by_cases hji : j = i
      · rw [if_pos ⟨rfl, hji⟩, if_pos (by omega), hji]
        unfold gfS
        rw [if_pos (by omega)]
      · rw [if_neg (fun q => hji q.2), hj.1]
        by_cases hlt : j < i
        · rw [if_pos hlt, if_pos (by omega)]
        · rw [if_neg hlt, if_neg (by omega)]
    · show (if 41 = 41 ∧ j = i then _ else τ3.1 41 j) = _
      rw [g41]
      show (if 41 = 41 ∧ j = i then _ else τ1.1 41 j) = _
      rw [q41]
      by_cases hji : j = i
      · rw [if_pos ⟨rfl, hji⟩, if_pos (by omega), hji]
        unfold wdS
        rw [if_pos (by omega)]
      · rw [if_neg (fun q => hji q.2), hj.2]
        by_cases hlt : j < i
        · rw [if_pos hlt, if_pos (by omega)]
        · rw [if_neg hlt, if_neg (by omega)]

set_option maxHeartbeats 4000000 in
set_option maxRecDepth 100000 in
theorem s_fill_1 {X : AX} {d : Nat} {σ : SG} (ho : ScOK σ 1) : Ev X 0 0 (d + 3) mX3_fill 0 [some (rv 39), some (rv 1), none] [] σ (QV (fun σ' => LgI σ σ' 1 ∧ Fr [37, 38, 39, 40, 41, 42] σ σ')) := by
  refine e_iconst (pc' := 1) dX3_fill_0 rfl ?_
  refine e_istore_n (pc' := 2) (L' := [some (rv 39), some (rv 1), some (iv 0)]) dX3_fill_1 rfl (by decide) rfl ?_
  refine e_iload_n (pc' := 3) dX3_fill_2 rfl rfl ?_
  refine e_iconst (pc' := 4) dX3_fill_3 rfl ?_
  refine e_icmpI (pc' := 7) (t := 27) dX3_fill_4 (by decide) rfl ⟨by omega, by omega⟩ ⟨by omega, by omega⟩ (fun c2_1 => absurd (show 3 ≤ (0 : Int) from c2_1) (by decide)) (fun _ => ?_)
  refine e_aload_n (pc' := 8) dX3_fill_7 rfl rfl ?_
  refine e_getR (pc' := 11) dX3_fill_8 rfl f_3_9 h_39 rfl ?_
  refine e_iload_n (pc' := 12) dX3_fill_11 rfl rfl ?_
  refine e_iconst (pc' := 13) dX3_fill_12 rfl ?_
  refine e_iast (pc' := 14) dX3_fill_13 rfl h_40 (by decide) (by omega) (by omega) ?_
  refine e_aload_n (pc' := 15) dX3_fill_14 rfl rfl ?_
  refine e_getR (pc' := 18) dX3_fill_15 rfl f_3_15 h_39 rfl ?_
  refine e_iload_n (pc' := 19) dX3_fill_18 rfl rfl ?_
  refine e_iconst (pc' := 20) dX3_fill_19 rfl ?_
  refine e_iast (pc' := 21) dX3_fill_20 rfl h_41 (by decide) (by omega) (by omega) ?_
  refine e_iinc (pc' := 24) (L' := [some (rv 39), some (rv 1), some (iv 1)]) dX3_fill_21 rfl rfl (by decide) rfl ?_
  refine e_goto (pc' := 2) dX3_fill_24 (by decide) ?_
  refine e_iload_n (pc' := 3) dX3_fill_2 rfl rfl ?_
  refine e_iconst (pc' := 4) dX3_fill_3 rfl ?_
  refine e_icmpI (pc' := 7) (t := 27) dX3_fill_4 (by decide) rfl ⟨by omega, by omega⟩ ⟨by omega, by omega⟩ (fun c2_2 => absurd (show 3 ≤ (1 : Int) from c2_2) (by decide)) (fun _ => ?_)
  refine e_aload_n (pc' := 8) dX3_fill_7 rfl rfl ?_
  refine e_getR (pc' := 11) dX3_fill_8 rfl f_3_9 h_39 rfl ?_
  refine e_iload_n (pc' := 12) dX3_fill_11 rfl rfl ?_
  refine e_iconst (pc' := 13) dX3_fill_12 rfl ?_
  refine e_iast (pc' := 14) dX3_fill_13 rfl h_40 (by decide) (by omega) (by omega) ?_
  refine e_aload_n (pc' := 15) dX3_fill_14 rfl rfl ?_
  refine e_getR (pc' := 18) dX3_fill_15 rfl f_3_15 h_39 rfl ?_
  refine e_iload_n (pc' := 19) dX3_fill_18 rfl rfl ?_
  refine e_iconst (pc' := 20) dX3_fill_19 rfl ?_
  refine e_iast (pc' := 21) dX3_fill_20 rfl h_41 (by decide) (by omega) (by omega) ?_
  refine e_iinc (pc' := 24) (L' := [some (rv 39), some (rv 1), some (iv 2)]) dX3_fill_21 rfl rfl (by decide) rfl ?_
  refine e_goto (pc' := 2) dX3_fill_24 (by decide) ?_
  refine e_iload_n (pc' := 3) dX3_fill_2 rfl rfl ?_
  refine e_iconst (pc' := 4) dX3_fill_3 rfl ?_
  refine e_icmpI (pc' := 7) (t := 27) dX3_fill_4 (by decide) rfl ⟨by omega, by omega⟩ ⟨by omega, by omega⟩ (fun c2_3 => absurd (show 3 ≤ (2 : Int) from c2_3) (by decide)) (fun _ => ?_)
  refine e_aload_n (pc' := 8) dX3_fill_7 rfl rfl ?_
  refine e_getR (pc' := 11) dX3_fill_8 rfl f_3_9 h_39 rfl ?_
  refine e_iload_n (pc' := 12) dX3_fill_11 rfl rfl ?_
  refine e_iconst (pc' := 13) dX3_fill_12 rfl ?_
  refine e_iast (pc' := 14) dX3_fill_13 rfl h_40 (by decide) (by omega) (by omega) ?_
  refine e_aload_n (pc' := 15) dX3_fill_14 rfl rfl ?_
  refine e_getR (pc' := 18) dX3_fill_15 rfl f_3_15 h_39 rfl ?_
  refine e_iload_n (pc' := 19) dX3_fill_18 rfl rfl ?_
  refine e_iconst (pc' := 20) dX3_fill_19 rfl ?_
  refine e_iast (pc' := 21) dX3_fill_20 rfl h_41 (by decide) (by omega) (by omega) ?_
  refine e_iinc (pc' := 24) (L' := [some (rv 39), some (rv 1), some (iv 3)]) dX3_fill_21 rfl rfl (by decide) rfl ?_
  refine e_goto (pc' := 2) dX3_fill_24 (by decide) ?_
  refine e_iload_n (pc' := 3) dX3_fill_2 rfl rfl ?_
  refine e_iconst (pc' := 4) dX3_fill_3 rfl ?_
  refine e_icmpI (pc' := 7) (t := 27) dX3_fill_4 (by decide) rfl ⟨by omega, by omega⟩ ⟨by omega, by omega⟩ (fun _ => ?_) (fun c2_4 => absurd (show 3 ≤ (3 : Int) by decide) c2_4)
  refine e_iconst (pc' := 28) dX3_fill_27 rfl ?_
  refine e_istore_n (pc' := 29) (L' := [some (rv 39), some (rv 1), some (iv 0)]) dX3_fill_28 rfl (by decide) rfl ?_
  have h9 : σ.1 1 9 = 0 ∨ σ.1 1 9 = 1 ∨ σ.1 1 9 = 2 := by have := ho.2.2.2.1; omega
  have h7 := ho.2.1
  rcases h9 with h9 | h9 | h9
  · exact l_fill_1_0 ho h9 (σ.1 1 7 + 1).toNat _ _ (by omega) (by omega) (by omega) (three_of ⟨rfl, rfl⟩ ⟨rfl, rfl⟩ ⟨rfl, rfl⟩) (by repeat (first | exact Fr.rf | (refine fr_I ?_ (by decide)) | (refine fr_J ?_ (by decide)) | (refine fr_C ?_ (by decide))))
  · exact l_fill_1_1 ho h9 (σ.1 1 7 + 1).toNat _ _ (by omega) (by omega) (by omega) (three_of ⟨rfl, rfl⟩ ⟨rfl, rfl⟩ ⟨rfl, rfl⟩) (by repeat (first | exact Fr.rf | (refine fr_I ?_ (by decide)) | (refine fr_J ?_ (by decide)) | (refine fr_C ?_ (by decide))))
  · exact l_fill_1_2 ho h9 (σ.1 1 7 + 1).toNat _ _ (by omega) (by omega) (by omega) (three_of ⟨rfl, rfl⟩ ⟨rfl, rfl⟩ ⟨rfl, rfl⟩) (by repeat (first | exact Fr.rf | (refine fr_I ?_ (by decide)) | (refine fr_J ?_ (by decide)) | (refine fr_C ?_ (by decide))))

theorem sameSc_17 {σ τ : SG} (h : Fr [37, 38, 39, 40, 41, 42] σ τ) : SameSc σ τ 17 := fun k h1 h2 => (h k (by simp only [List.mem_cons, List.not_mem_nil, or_false]; omega)).1

set_option maxHeartbeats 4000000 in
set_option maxRecDepth 100000 in
theorem l_fill_17_0 {X : AX} {d : Nat} {σ : SG} (ho : ScOK σ 17) (h9 : σ.1 17 9 = 0) : ∀ (k : Nat) (i : Int) (τ : SG), 0 ≤ i → i ≤ σ.1 17 7 → σ.1 17 7 - i < k → (∀ j, 0 ≤ j → j < 3 → τ.1 40 j = (if j < i then gfS σ 17 j else 0) ∧ τ.1 41 j = (if j < i then wdS σ 17 j else 0)) → Fr [37, 38, 39, 40, 41, 42] σ τ → Ev X 0 0 (d + 3) mX3_fill 29 [some (rv 39), some (rv 17), some (iv i)] [] τ (QV (fun σ' => LgI σ σ' 17 ∧ Fr [37, 38, 39, 40, 41, 42] σ σ')) := by
  intro k
  induction k with
  | zero => intros; omega
  | succ k ih =>
  intro i τ hi0 hi1 hik hI hF
  have hoτ : ScOK τ 17 := ho.cg (sameSc_17 hF)
  have e1 : τ.1 17 = σ.1 17 := (hF 17 (by decide)).1
  have e5 : τ.1 22 = σ.1 22 := (hF 22 (by decide)).1
  have h7 := ho.2.1
  have h9r := ho.2.2.2.1
  refine e_iload_n (pc' := 30) dX3_fill_29 rfl rfl ?_
  refine e_aload_n (pc' := 31) dX3_fill_30 rfl rfl ?_
  refine e_getI (pc' := 34) (v := (σ.1 17 7)) dX3_fill_31 rfl f_3_25 h_17 rfl ((congrFun (hF 17 (by decide)).1 7).trans rfl) ?_
  refine e_icmpI (pc' := 37) (t := 86) dX3_fill_34 (by decide) rfl ⟨by omega, by omega⟩ ⟨by omega, by omega⟩ (fun (c2_1 : (σ.1 17 7) ≤ (i : Int)) => ?_) (fun (c2_1 : ¬ ((σ.1 17 7) ≤ (i : Int))) => ?_)
  · refine e_aload_n (pc' := 87) dX3_fill_86 rfl rfl ?_
    refine e_aload_n (pc' := 88) dX3_fill_87 rfl rfl ?_
    refine e_cv1v (pc' := 91) dX3_fill_88 rfl k_3_52 h_39 rfl (Nat.le_of_ble_eq_true rfl) rfl rfl ⟨rfl, rfl⟩ ⟨Nat.zero_le _, Nat.zero_le _⟩ (s_partPurse_17 (by rw [(hI 0 (by decide) (by decide)).2]; split <;> first | exact wdS_rg _ _ _ | decide) (by rw [(hI 1 (by decide) (by decide)).2]; split <;> first | exact wdS_rg _ _ _ | decide) (by rw [(hI 2 (by decide) (by decide)).2]; split <;> first | exact wdS_rg _ _ _ | decide) hoτ.2.2.2.2.1 hoτ.2.2.2.2.2.1) ?_
    rintro τ4 ⟨h3, h4, hG4⟩
    exact e_vret dX3_fill_91 rfl ⟨rfl, Nat.le_refl _⟩ (by
    have hw : ∀ j, 0 ≤ j → j < 3 → τ.1 40 j = gfS σ 17 j ∧ τ.1 41 j = wdS σ 17 j := by
      intro j a c
      have hj := hI j a c
      by_cases hlt : j < i
      · rw [if_pos hlt, if_pos hlt] at hj; exact hj
      · rw [if_neg hlt, if_neg hlt] at hj
        unfold gfS wdS
        rw [if_neg (by omega), if_neg (by omega)]; exact hj
    have w0 := (hw 0 (by decide) (by decide)).2
    have w1 := (hw 1 (by decide) (by decide)).2
    have w2 := (hw 2 (by decide) (by decide)).2
    have ea := adS_cg (md := σ.1 17 11) (p := σ.1 17 10) w0 w1 w2
    rw [e1] at h3 h4
    rw [w0, w1, w2] at h4
    refine ⟨rfl, ⟨three_of ⟨?_, ?_, h3.1.trans (ea 0 (by decide) (by decide))⟩ ⟨?_, ?_, h3.2.1.trans (ea 1 (by decide) (by decide))⟩ ⟨?_, ?_, h3.2.2.trans (ea 2 (by decide) (by decide))⟩, ?_⟩, hF.tr (hG4.mono (by decide))⟩
    · exact (congrFun (hG4 40 (by decide)).1 0).trans (hw 0 (by decide) (by decide)).1
    · exact (congrFun (hG4 41 (by decide)).1 0).trans w0
    · exact (congrFun (hG4 40 (by decide)).1 1).trans (hw 1 (by decide) (by decide)).1
    · exact (congrFun (hG4 41 (by decide)).1 1).trans w1
    · exact (congrFun (hG4 40 (by decide)).1 2).trans (hw 2 (by decide) (by decide)).1
    · exact (congrFun (hG4 41 (by decide)).1 2).trans w2
    · rw [h4]
      by_cases hq : wdS σ 17 0 + wdS σ 17 1 + wdS σ 17 2 ≤ σ.1 17 10
      · rw [if_pos hq, if_pos (by omega)]
      · rw [if_neg hq, if_neg (by omega)])
  · refine e_aload_n (pc' := 38) dX3_fill_37 rfl rfl ?_
    refine e_getR (pc' := 41) dX3_fill_38 rfl f_3_21 h_39 rfl ?_
    refine e_aload_n (pc' := 42) dX3_fill_41 rfl rfl ?_
    refine e_iload_n (pc' := 43) dX3_fill_42 rfl rfl ?_
    refine e_iconst (pc' := 44) dX3_fill_43 rfl ?_
    refine e_cv3v (pc' := 47) dX3_fill_44 rfl k_3_31 h_37 rfl (Nat.le_of_ble_eq_true rfl) rfl rfl ⟨rfl, rfl⟩ ⟨Nat.zero_le _, Nat.zero_le _⟩ (s_seeAllBut_17 hoτ.1 hoτ.2.2.2.2.2.2.1 i (-1) ⟨by omega, by omega⟩ ⟨by omega, by omega⟩) ?_
    rintro τ1 ⟨hS1, hG1⟩
    rw [e1, e5] at hS1
    have hF1 : Fr [37, 38, 39, 40, 41, 42] σ τ1 := hF.tr (hG1.mono (by decide))
    have hoτ1 : ScOK τ1 17 := ho.cg (sameSc_17 hF1)
    have e1' : τ1.1 17 = σ.1 17 := (hF1 17 (by decide)).1
    have e5' : τ1.1 22 = σ.1 22 := (hF1 22 (by decide)).1
    refine e_aload_n (pc' := 48) dX3_fill_47 rfl rfl ?_
    refine e_getR (pc' := 51) dX3_fill_48 rfl f_3_9 h_39 rfl ?_
    refine e_iload_n (pc' := 52) dX3_fill_51 rfl rfl ?_
    refine e_aload_n (pc' := 53) dX3_fill_52 rfl rfl ?_
    refine e_iload_n (pc' := 54) dX3_fill_53 rfl rfl ?_
    refine e_cv1i (pc' := 57) dX3_fill_54 rfl k_3_37 h_17 rfl (Nat.le_of_ble_eq_true rfl) rfl rfl ⟨rfl, rfl⟩ ⟨Nat.zero_le _, Nat.zero_le _⟩ (s_givenTo_17 hoτ1.1 i ⟨by omega, by omega⟩) ?_
    intro r σ' hr; rw [hr.1, hr.2]; clear hr
    rw [e1', e5']
    refine e_iast (pc' := 58) dX3_fill_57 rfl h_40 (by decide) (by omega) (by omega) ?_
    have hF2 : Fr [37, 38, 39, 40, 41, 42] σ (upI τ1 40 i (smI (fun g => σ.1 22 (g * 3 + i)) (σ.1 17 6))) := fr_I hF1 (by decide)
    have hoτ2 : ScOK (upI τ1 40 i (smI (fun g => σ.1 22 (g * 3 + i)) (σ.1 17 6))) 17 := ho.cg (sameSc_17 hF2)
    have h9τ : ((upI τ1 40 i (smI (fun g => σ.1 22 (g * 3 + i)) (σ.1 17 6)))).1 17 9 = 0 := (congrFun (hF2 17 (by decide)).1 9).trans h9
    refine e_aload_n (pc' := 59) dX3_fill_58 rfl rfl ?_
    refine e_getR (pc' := 62) dX3_fill_59 rfl f_3_15 h_39 rfl ?_
    refine e_iload_n (pc' := 63) dX3_fill_62 rfl rfl ?_
    refine e_aload_n (pc' := 64) dX3_fill_63 rfl rfl ?_
    refine e_getR (pc' := 67) dX3_fill_64 rfl f_3_21 h_39 rfl ?_
    refine e_aload_n (pc' := 68) dX3_fill_67 rfl rfl ?_
    refine e_getR (pc' := 71) dX3_fill_68 rfl f_3_41 h_17 rfl ?_
    refine e_aload_n (pc' := 72) dX3_fill_71 rfl rfl ?_
    refine e_getI (pc' := 75) (v := (σ.1 17 9)) dX3_fill_72 rfl f_3_45 h_17 rfl ((congrFun (hF1 17 (by decide)).1 9).trans rfl) ?_
    refine e_aald (pc' := 76) (k := 24) dX3_fill_75 rfl h_23 (by decide) (by decide) (by omega) (by omega) (by rw [h9]; rfl) ?_
    refine e_cv1i (pc' := 79) dX3_fill_76 rfl k_3_48 h_37 rfl (Nat.le_of_ble_eq_true rfl) rfl rfl ⟨rfl, rfl⟩ ⟨Nat.zero_le _, Nat.zero_le _⟩ (s_told_17_0 (σ := (upI τ1 40 i (smI (fun g => σ.1 22 (g * 3 + i)) (σ.1 17 6)))) hoτ2 h9τ (saI (σ.1 22) i (-1) (σ.1 17 6)) hS1 (saI_R _ _ _ (by have := ho.1; omega))) ?_
    rintro r3 τ3 ⟨hr3, hG3⟩
    rw [tlR_cg ho (sameSc_17 hF2)] at hr3
    subst hr3
    have hF3 : Fr [37, 38, 39, 40, 41, 42] σ τ3 := hF2.tr (hG3.mono (by decide))
    refine e_iast (pc' := 80) dX3_fill_79 rfl h_41 (by decide) (by omega) (by omega) ?_
    refine e_iinc (pc' := 83) (L' := [some (rv 39), some (rv 17), some (iv (i + 1))]) dX3_fill_80 rfl rfl (by decide) rfl ?_
    refine e_goto (pc' := 29) dX3_fill_83 (by decide) ?_
    refine ih _ _ (by omega) (by omega) (by omega) (fun j hj0 hj3 => ?_) (fr_I hF3 (by decide))
    have g40 : τ3.1 40 = (upI τ1 40 i _).1 40 := (hG3 40 (by decide)).1
    have g41 : τ3.1 41 = (upI τ1 40 i _).1 41 := (hG3 41 (by decide)).1
    have q40 : τ1.1 40 = τ.1 40 := (hG1 40 (by decide)).1
    have q41 : τ1.1 41 = τ.1 41 := (hG1 41 (by decide)).1
    have hj := hI j hj0 hj3
    refine ⟨?_, ?_⟩
    · show τ3.1 40 j = _
      rw [g40]
      show (if 40 = 40 ∧ j = i then _ else τ1.1 40 j) = _
      rw [q40]
      by_cases hji : j = i
      · rw [if_pos ⟨rfl, hji⟩, if_pos (by omega), hji]
        unfold gfS
        rw [if_pos (by omega)]
      · rw [if_neg (fun q => hji q.2), hj.1]
        by_cases hlt : j < i
        · rw [if_pos hlt, if_pos (by omega)]
        · rw [if_neg hlt, if_neg (by omega)]
    · show (if 41 = 41 ∧ j = i then _ else τ3.1 41 j) = _
      rw [g41]
      show (if 41 = 41 ∧ j = i then _ else τ1.1 41 j) = _
      rw [q41]
      by_cases hji : j = i
      · rw [if_pos ⟨rfl, hji⟩, if_pos (by omega), hji]
        unfold wdS
        rw [if_pos (by omega)]
      · rw [if_neg (fun q => hji q.2), hj.2]
        by_cases hlt : j < i
        · rw [if_pos hlt, if_pos (by omega)]
        · rw [if_neg hlt, if_neg (by omega)]

set_option maxHeartbeats 4000000 in
set_option maxRecDepth 100000 in
theorem l_fill_17_1 {X : AX} {d : Nat} {σ : SG} (ho : ScOK σ 17) (h9 : σ.1 17 9 = 1) : ∀ (k : Nat) (i : Int) (τ : SG), 0 ≤ i → i ≤ σ.1 17 7 → σ.1 17 7 - i < k → (∀ j, 0 ≤ j → j < 3 → τ.1 40 j = (if j < i then gfS σ 17 j else 0) ∧ τ.1 41 j = (if j < i then wdS σ 17 j else 0)) → Fr [37, 38, 39, 40, 41, 42] σ τ → Ev X 0 0 (d + 3) mX3_fill 29 [some (rv 39), some (rv 17), some (iv i)] [] τ (QV (fun σ' => LgI σ σ' 17 ∧ Fr [37, 38, 39, 40, 41, 42] σ σ')) := by
  intro k
  induction k with
  | zero => intros; omega
  | succ k ih =>
  intro i τ hi0 hi1 hik hI hF
  have hoτ : ScOK τ 17 := ho.cg (sameSc_17 hF)
  have e1 : τ.1 17 = σ.1 17 := (hF 17 (by decide)).1
  have e5 : τ.1 22 = σ.1 22 := (hF 22 (by decide)).1
  have h7 := ho.2.1
  have h9r := ho.2.2.2.1
  refine e_iload_n (pc' := 30) dX3_fill_29 rfl rfl ?_
  refine e_aload_n (pc' := 31) dX3_fill_30 rfl rfl ?_
  refine e_getI (pc' := 34) (v := (σ.1 17 7)) dX3_fill_31 rfl f_3_25 h_17 rfl ((congrFun (hF 17 (by decide)).1 7).trans rfl) ?_
  refine e_icmpI (pc' := 37) (t := 86) dX3_fill_34 (by decide) rfl ⟨by omega, by omega⟩ ⟨by omega, by omega⟩ (fun (c2_1 : (σ.1 17 7) ≤ (i : Int)) => ?_) (fun (c2_1 : ¬ ((σ.1 17 7) ≤ (i : Int))) => ?_)
  · refine e_aload_n (pc' := 87) dX3_fill_86 rfl rfl ?_
    refine e_aload_n (pc' := 88) dX3_fill_87 rfl rfl ?_
    refine e_cv1v (pc' := 91) dX3_fill_88 rfl k_3_52 h_39 rfl (Nat.le_of_ble_eq_true rfl) rfl rfl ⟨rfl, rfl⟩ ⟨Nat.zero_le _, Nat.zero_le _⟩ (s_partPurse_17 (by rw [(hI 0 (by decide) (by decide)).2]; split <;> first | exact wdS_rg _ _ _ | decide) (by rw [(hI 1 (by decide) (by decide)).2]; split <;> first | exact wdS_rg _ _ _ | decide) (by rw [(hI 2 (by decide) (by decide)).2]; split <;> first | exact wdS_rg _ _ _ | decide) hoτ.2.2.2.2.1 hoτ.2.2.2.2.2.1) ?_
    rintro τ4 ⟨h3, h4, hG4⟩
    exact e_vret dX3_fill_91 rfl ⟨rfl, Nat.le_refl _⟩ (by
    have hw : ∀ j, 0 ≤ j → j < 3 → τ.1 40 j = gfS σ 17 j ∧ τ.1 41 j = wdS σ 17 j := by
      intro j a c
      have hj := hI j a c
      by_cases hlt : j < i
      · rw [if_pos hlt, if_pos hlt] at hj; exact hj
      · rw [if_neg hlt, if_neg hlt] at hj
        unfold gfS wdS
        rw [if_neg (by omega), if_neg (by omega)]; exact hj
    have w0 := (hw 0 (by decide) (by decide)).2
    have w1 := (hw 1 (by decide) (by decide)).2
    have w2 := (hw 2 (by decide) (by decide)).2
    have ea := adS_cg (md := σ.1 17 11) (p := σ.1 17 10) w0 w1 w2
    rw [e1] at h3 h4
    rw [w0, w1, w2] at h4
    refine ⟨rfl, ⟨three_of ⟨?_, ?_, h3.1.trans (ea 0 (by decide) (by decide))⟩ ⟨?_, ?_, h3.2.1.trans (ea 1 (by decide) (by decide))⟩ ⟨?_, ?_, h3.2.2.trans (ea 2 (by decide) (by decide))⟩, ?_⟩, hF.tr (hG4.mono (by decide))⟩
    · exact (congrFun (hG4 40 (by decide)).1 0).trans (hw 0 (by decide) (by decide)).1
    · exact (congrFun (hG4 41 (by decide)).1 0).trans w0
    · exact (congrFun (hG4 40 (by decide)).1 1).trans (hw 1 (by decide) (by decide)).1
    · exact (congrFun (hG4 41 (by decide)).1 1).trans w1
    · exact (congrFun (hG4 40 (by decide)).1 2).trans (hw 2 (by decide) (by decide)).1
    · exact (congrFun (hG4 41 (by decide)).1 2).trans w2
    · rw [h4]
      by_cases hq : wdS σ 17 0 + wdS σ 17 1 + wdS σ 17 2 ≤ σ.1 17 10
      · rw [if_pos hq, if_pos (by omega)]
      · rw [if_neg hq, if_neg (by omega)])
  · refine e_aload_n (pc' := 38) dX3_fill_37 rfl rfl ?_
    refine e_getR (pc' := 41) dX3_fill_38 rfl f_3_21 h_39 rfl ?_
    refine e_aload_n (pc' := 42) dX3_fill_41 rfl rfl ?_
    refine e_iload_n (pc' := 43) dX3_fill_42 rfl rfl ?_
    refine e_iconst (pc' := 44) dX3_fill_43 rfl ?_
    refine e_cv3v (pc' := 47) dX3_fill_44 rfl k_3_31 h_37 rfl (Nat.le_of_ble_eq_true rfl) rfl rfl ⟨rfl, rfl⟩ ⟨Nat.zero_le _, Nat.zero_le _⟩ (s_seeAllBut_17 hoτ.1 hoτ.2.2.2.2.2.2.1 i (-1) ⟨by omega, by omega⟩ ⟨by omega, by omega⟩) ?_
    rintro τ1 ⟨hS1, hG1⟩
    rw [e1, e5] at hS1
    have hF1 : Fr [37, 38, 39, 40, 41, 42] σ τ1 := hF.tr (hG1.mono (by decide))
    have hoτ1 : ScOK τ1 17 := ho.cg (sameSc_17 hF1)
    have e1' : τ1.1 17 = σ.1 17 := (hF1 17 (by decide)).1
    have e5' : τ1.1 22 = σ.1 22 := (hF1 22 (by decide)).1
    refine e_aload_n (pc' := 48) dX3_fill_47 rfl rfl ?_
    refine e_getR (pc' := 51) dX3_fill_48 rfl f_3_9 h_39 rfl ?_
    refine e_iload_n (pc' := 52) dX3_fill_51 rfl rfl ?_
    refine e_aload_n (pc' := 53) dX3_fill_52 rfl rfl ?_
    refine e_iload_n (pc' := 54) dX3_fill_53 rfl rfl ?_
    refine e_cv1i (pc' := 57) dX3_fill_54 rfl k_3_37 h_17 rfl (Nat.le_of_ble_eq_true rfl) rfl rfl ⟨rfl, rfl⟩ ⟨Nat.zero_le _, Nat.zero_le _⟩ (s_givenTo_17 hoτ1.1 i ⟨by omega, by omega⟩) ?_
    intro r σ' hr; rw [hr.1, hr.2]; clear hr
    rw [e1', e5']
    refine e_iast (pc' := 58) dX3_fill_57 rfl h_40 (by decide) (by omega) (by omega) ?_
    have hF2 : Fr [37, 38, 39, 40, 41, 42] σ (upI τ1 40 i (smI (fun g => σ.1 22 (g * 3 + i)) (σ.1 17 6))) := fr_I hF1 (by decide)
    have hoτ2 : ScOK (upI τ1 40 i (smI (fun g => σ.1 22 (g * 3 + i)) (σ.1 17 6))) 17 := ho.cg (sameSc_17 hF2)
    have h9τ : ((upI τ1 40 i (smI (fun g => σ.1 22 (g * 3 + i)) (σ.1 17 6)))).1 17 9 = 1 := (congrFun (hF2 17 (by decide)).1 9).trans h9
    refine e_aload_n (pc' := 59) dX3_fill_58 rfl rfl ?_
    refine e_getR (pc' := 62) dX3_fill_59 rfl f_3_15 h_39 rfl ?_
    refine e_iload_n (pc' := 63) dX3_fill_62 rfl rfl ?_
    refine e_aload_n (pc' := 64) dX3_fill_63 rfl rfl ?_
    refine e_getR (pc' := 67) dX3_fill_64 rfl f_3_21 h_39 rfl ?_
    refine e_aload_n (pc' := 68) dX3_fill_67 rfl rfl ?_
    refine e_getR (pc' := 71) dX3_fill_68 rfl f_3_41 h_17 rfl ?_
    refine e_aload_n (pc' := 72) dX3_fill_71 rfl rfl ?_
    refine e_getI (pc' := 75) (v := (σ.1 17 9)) dX3_fill_72 rfl f_3_45 h_17 rfl ((congrFun (hF1 17 (by decide)).1 9).trans rfl) ?_
    refine e_aald (pc' := 76) (k := 27) dX3_fill_75 rfl h_23 (by decide) (by decide) (by omega) (by omega) (by rw [h9]; rfl) ?_
    refine e_cv1i (pc' := 79) dX3_fill_76 rfl k_3_48 h_37 rfl (Nat.le_of_ble_eq_true rfl) rfl rfl ⟨rfl, rfl⟩ ⟨Nat.zero_le _, Nat.zero_le _⟩ (s_told_17_1 (σ := (upI τ1 40 i (smI (fun g => σ.1 22 (g * 3 + i)) (σ.1 17 6)))) hoτ2 h9τ (saI (σ.1 22) i (-1) (σ.1 17 6)) hS1 (saI_R _ _ _ (by have := ho.1; omega))) ?_
    rintro r3 τ3 ⟨hr3, hG3⟩
    rw [tlR_cg ho (sameSc_17 hF2)] at hr3
    subst hr3
    have hF3 : Fr [37, 38, 39, 40, 41, 42] σ τ3 := hF2.tr (hG3.mono (by decide))
    refine e_iast (pc' := 80) dX3_fill_79 rfl h_41 (by decide) (by omega) (by omega) ?_
    refine e_iinc (pc' := 83) (L' := [some (rv 39), some (rv 17), some (iv (i + 1))]) dX3_fill_80 rfl rfl (by decide) rfl ?_
    refine e_goto (pc' := 29) dX3_fill_83 (by decide) ?_
    refine ih _ _ (by omega) (by omega) (by omega) (fun j hj0 hj3 => ?_) (fr_I hF3 (by decide))
    have g40 : τ3.1 40 = (upI τ1 40 i _).1 40 := (hG3 40 (by decide)).1
    have g41 : τ3.1 41 = (upI τ1 40 i _).1 41 := (hG3 41 (by decide)).1
    have q40 : τ1.1 40 = τ.1 40 := (hG1 40 (by decide)).1
    have q41 : τ1.1 41 = τ.1 41 := (hG1 41 (by decide)).1
    have hj := hI j hj0 hj3
    refine ⟨?_, ?_⟩
    · show τ3.1 40 j = _
      rw [g40]
      show (if 40 = 40 ∧ j = i then _ else τ1.1 40 j) = _
      rw [q40]
      by_cases hji : j = i
      · rw [if_pos ⟨rfl, hji⟩, if_pos (by omega), hji]
        unfold gfS
        rw [if_pos (by omega)]
      · rw [if_neg (fun q => hji q.2), hj.1]
        by_cases hlt : j < i
        · rw [if_pos hlt, if_pos (by omega)]
        · rw [if_neg hlt, if_neg (by omega)]
    · show (if 41 = 41 ∧ j = i then _ else τ3.1 41 j) = _
      rw [g41]
      show (if 41 = 41 ∧ j = i then _ else τ1.1 41 j) = _
      rw [q41]
      by_cases hji : j = i
      · rw [if_pos ⟨rfl, hji⟩, if_pos (by omega), hji]
        unfold wdS
        rw [if_pos (by omega)]
      · rw [if_neg (fun q => hji q.2), hj.2]
        by_cases hlt : j < i
        · rw [if_pos hlt, if_pos (by omega)]
        · rw [if_neg hlt, if_neg (by omega)]

set_option maxHeartbeats 4000000 in
set_option maxRecDepth 100000 in
theorem l_fill_17_2 {X : AX} {d : Nat} {σ : SG} (ho : ScOK σ 17) (h9 : σ.1 17 9 = 2) : ∀ (k : Nat) (i : Int) (τ : SG), 0 ≤ i → i ≤ σ.1 17 7 → σ.1 17 7 - i < k → (∀ j, 0 ≤ j → j < 3 → τ.1 40 j = (if j < i then gfS σ 17 j else 0) ∧ τ.1 41 j = (if j < i then wdS σ 17 j else 0)) → Fr [37, 38, 39, 40, 41, 42] σ τ → Ev X 0 0 (d + 3) mX3_fill 29 [some (rv 39), some (rv 17), some (iv i)] [] τ (QV (fun σ' => LgI σ σ' 17 ∧ Fr [37, 38, 39, 40, 41, 42] σ σ')) := by
  intro k
  induction k with
  | zero => intros; omega
  | succ k ih =>
  intro i τ hi0 hi1 hik hI hF
  have hoτ : ScOK τ 17 := ho.cg (sameSc_17 hF)
  have e1 : τ.1 17 = σ.1 17 := (hF 17 (by decide)).1
  have e5 : τ.1 22 = σ.1 22 := (hF 22 (by decide)).1
  have h7 := ho.2.1
  have h9r := ho.2.2.2.1
  refine e_iload_n (pc' := 30) dX3_fill_29 rfl rfl ?_
  refine e_aload_n (pc' := 31) dX3_fill_30 rfl rfl ?_
  refine e_getI (pc' := 34) (v := (σ.1 17 7)) dX3_fill_31 rfl f_3_25 h_17 rfl ((congrFun (hF 17 (by decide)).1 7).trans rfl) ?_
  refine e_icmpI (pc' := 37) (t := 86) dX3_fill_34 (by decide) rfl ⟨by omega, by omega⟩ ⟨by omega, by omega⟩ (fun (c2_1 : (σ.1 17 7) ≤ (i : Int)) => ?_) (fun (c2_1 : ¬ ((σ.1 17 7) ≤ (i : Int))) => ?_)
  · refine e_aload_n (pc' := 87) dX3_fill_86 rfl rfl ?_
    refine e_aload_n (pc' := 88) dX3_fill_87 rfl rfl ?_
    refine e_cv1v (pc' := 91) dX3_fill_88 rfl k_3_52 h_39 rfl (Nat.le_of_ble_eq_true rfl) rfl rfl ⟨rfl, rfl⟩ ⟨Nat.zero_le _, Nat.zero_le _⟩ (s_partPurse_17 (by rw [(hI 0 (by decide) (by decide)).2]; split <;> first | exact wdS_rg _ _ _ | decide) (by rw [(hI 1 (by decide) (by decide)).2]; split <;> first | exact wdS_rg _ _ _ | decide) (by rw [(hI 2 (by decide) (by decide)).2]; split <;> first | exact wdS_rg _ _ _ | decide) hoτ.2.2.2.2.1 hoτ.2.2.2.2.2.1) ?_
    rintro τ4 ⟨h3, h4, hG4⟩
    exact e_vret dX3_fill_91 rfl ⟨rfl, Nat.le_refl _⟩ (by
    have hw : ∀ j, 0 ≤ j → j < 3 → τ.1 40 j = gfS σ 17 j ∧ τ.1 41 j = wdS σ 17 j := by
      intro j a c
      have hj := hI j a c
      by_cases hlt : j < i
      · rw [if_pos hlt, if_pos hlt] at hj; exact hj
      · rw [if_neg hlt, if_neg hlt] at hj
        unfold gfS wdS
        rw [if_neg (by omega), if_neg (by omega)]; exact hj
    have w0 := (hw 0 (by decide) (by decide)).2
    have w1 := (hw 1 (by decide) (by decide)).2
    have w2 := (hw 2 (by decide) (by decide)).2
    have ea := adS_cg (md := σ.1 17 11) (p := σ.1 17 10) w0 w1 w2
    rw [e1] at h3 h4
    rw [w0, w1, w2] at h4
    refine ⟨rfl, ⟨three_of ⟨?_, ?_, h3.1.trans (ea 0 (by decide) (by decide))⟩ ⟨?_, ?_, h3.2.1.trans (ea 1 (by decide) (by decide))⟩ ⟨?_, ?_, h3.2.2.trans (ea 2 (by decide) (by decide))⟩, ?_⟩, hF.tr (hG4.mono (by decide))⟩
    · exact (congrFun (hG4 40 (by decide)).1 0).trans (hw 0 (by decide) (by decide)).1
    · exact (congrFun (hG4 41 (by decide)).1 0).trans w0
    · exact (congrFun (hG4 40 (by decide)).1 1).trans (hw 1 (by decide) (by decide)).1
    · exact (congrFun (hG4 41 (by decide)).1 1).trans w1
    · exact (congrFun (hG4 40 (by decide)).1 2).trans (hw 2 (by decide) (by decide)).1
    · exact (congrFun (hG4 41 (by decide)).1 2).trans w2
    · rw [h4]
      by_cases hq : wdS σ 17 0 + wdS σ 17 1 + wdS σ 17 2 ≤ σ.1 17 10
      · rw [if_pos hq, if_pos (by omega)]
      · rw [if_neg hq, if_neg (by omega)])
  · refine e_aload_n (pc' := 38) dX3_fill_37 rfl rfl ?_
    refine e_getR (pc' := 41) dX3_fill_38 rfl f_3_21 h_39 rfl ?_
    refine e_aload_n (pc' := 42) dX3_fill_41 rfl rfl ?_
    refine e_iload_n (pc' := 43) dX3_fill_42 rfl rfl ?_
    refine e_iconst (pc' := 44) dX3_fill_43 rfl ?_
    refine e_cv3v (pc' := 47) dX3_fill_44 rfl k_3_31 h_37 rfl (Nat.le_of_ble_eq_true rfl) rfl rfl ⟨rfl, rfl⟩ ⟨Nat.zero_le _, Nat.zero_le _⟩ (s_seeAllBut_17 hoτ.1 hoτ.2.2.2.2.2.2.1 i (-1) ⟨by omega, by omega⟩ ⟨by omega, by omega⟩) ?_
    rintro τ1 ⟨hS1, hG1⟩
    rw [e1, e5] at hS1
    have hF1 : Fr [37, 38, 39, 40, 41, 42] σ τ1 := hF.tr (hG1.mono (by decide))
    have hoτ1 : ScOK τ1 17 := ho.cg (sameSc_17 hF1)
    have e1' : τ1.1 17 = σ.1 17 := (hF1 17 (by decide)).1
    have e5' : τ1.1 22 = σ.1 22 := (hF1 22 (by decide)).1
    refine e_aload_n (pc' := 48) dX3_fill_47 rfl rfl ?_
    refine e_getR (pc' := 51) dX3_fill_48 rfl f_3_9 h_39 rfl ?_
    refine e_iload_n (pc' := 52) dX3_fill_51 rfl rfl ?_
    refine e_aload_n (pc' := 53) dX3_fill_52 rfl rfl ?_
    refine e_iload_n (pc' := 54) dX3_fill_53 rfl rfl ?_
    refine e_cv1i (pc' := 57) dX3_fill_54 rfl k_3_37 h_17 rfl (Nat.le_of_ble_eq_true rfl) rfl rfl ⟨rfl, rfl⟩ ⟨Nat.zero_le _, Nat.zero_le _⟩ (s_givenTo_17 hoτ1.1 i ⟨by omega, by omega⟩) ?_
    intro r σ' hr; rw [hr.1, hr.2]; clear hr
    rw [e1', e5']
    refine e_iast (pc' := 58) dX3_fill_57 rfl h_40 (by decide) (by omega) (by omega) ?_
    have hF2 : Fr [37, 38, 39, 40, 41, 42] σ (upI τ1 40 i (smI (fun g => σ.1 22 (g * 3 + i)) (σ.1 17 6))) := fr_I hF1 (by decide)
    have hoτ2 : ScOK (upI τ1 40 i (smI (fun g => σ.1 22 (g * 3 + i)) (σ.1 17 6))) 17 := ho.cg (sameSc_17 hF2)
    have h9τ : ((upI τ1 40 i (smI (fun g => σ.1 22 (g * 3 + i)) (σ.1 17 6)))).1 17 9 = 2 := (congrFun (hF2 17 (by decide)).1 9).trans h9
    refine e_aload_n (pc' := 59) dX3_fill_58 rfl rfl ?_
    refine e_getR (pc' := 62) dX3_fill_59 rfl f_3_15 h_39 rfl ?_
    refine e_iload_n (pc' := 63) dX3_fill_62 rfl rfl ?_
    refine e_aload_n (pc' := 64) dX3_fill_63 rfl rfl ?_
    refine e_getR (pc' := 67) dX3_fill_64 rfl f_3_21 h_39 rfl ?_
    refine e_aload_n (pc' := 68) dX3_fill_67 rfl rfl ?_
    refine e_getR (pc' := 71) dX3_fill_68 rfl f_3_41 h_17 rfl ?_
    refine e_aload_n (pc' := 72) dX3_fill_71 rfl rfl ?_
    refine e_getI (pc' := 75) (v := (σ.1 17 9)) dX3_fill_72 rfl f_3_45 h_17 rfl ((congrFun (hF1 17 (by decide)).1 9).trans rfl) ?_
    refine e_aald (pc' := 76) (k := 30) dX3_fill_75 rfl h_23 (by decide) (by decide) (by omega) (by omega) (by rw [h9]; rfl) ?_
    refine e_cv1i (pc' := 79) dX3_fill_76 rfl k_3_48 h_37 rfl (Nat.le_of_ble_eq_true rfl) rfl rfl ⟨rfl, rfl⟩ ⟨Nat.zero_le _, Nat.zero_le _⟩ (s_told_17_2 (σ := (upI τ1 40 i (smI (fun g => σ.1 22 (g * 3 + i)) (σ.1 17 6)))) hoτ2 h9τ (saI (σ.1 22) i (-1) (σ.1 17 6)) hS1 (saI_R _ _ _ (by have := ho.1; omega))) ?_
    rintro r3 τ3 ⟨hr3, hG3⟩
    rw [tlR_cg ho (sameSc_17 hF2)] at hr3
    subst hr3
    have hF3 : Fr [37, 38, 39, 40, 41, 42] σ τ3 := hF2.tr (hG3.mono (by decide))
    refine e_iast (pc' := 80) dX3_fill_79 rfl h_41 (by decide) (by omega) (by omega) ?_
    refine e_iinc (pc' := 83) (L' := [some (rv 39), some (rv 17), some (iv (i + 1))]) dX3_fill_80 rfl rfl (by decide) rfl ?_
    refine e_goto (pc' := 29) dX3_fill_83 (by decide) ?_
    refine ih _ _ (by omega) (by omega) (by omega) (fun j hj0 hj3 => ?_) (fr_I hF3 (by decide))
    have g40 : τ3.1 40 = (upI τ1 40 i _).1 40 := (hG3 40 (by decide)).1
    have g41 : τ3.1 41 = (upI τ1 40 i _).1 41 := (hG3 41 (by decide)).1
    have q40 : τ1.1 40 = τ.1 40 := (hG1 40 (by decide)).1
    have q41 : τ1.1 41 = τ.1 41 := (hG1 41 (by decide)).1
    have hj := hI j hj0 hj3
    refine ⟨?_, ?_⟩
    · show τ3.1 40 j = _
      rw [g40]
      show (if 40 = 40 ∧ j = i then _ else τ1.1 40 j) = _
      rw [q40]
      by_cases hji : j = i
      · rw [if_pos ⟨rfl, hji⟩, if_pos (by omega), hji]
        unfold gfS
        rw [if_pos (by omega)]
      · rw [if_neg (fun q => hji q.2), hj.1]
        by_cases hlt : j < i
        · rw [if_pos hlt, if_pos (by omega)]
        · rw [if_neg hlt, if_neg (by omega)]
    · show (if 41 = 41 ∧ j = i then _ else τ3.1 41 j) = _
      rw [g41]
      show (if 41 = 41 ∧ j = i then _ else τ1.1 41 j) = _
      rw [q41]
      by_cases hji : j = i
      · rw [if_pos ⟨rfl, hji⟩, if_pos (by omega), hji]
        unfold wdS
        rw [if_pos (by omega)]
      · rw [if_neg (fun q => hji q.2), hj.2]
        by_cases hlt : j < i
        · rw [if_pos hlt, if_pos (by omega)]
        · rw [if_neg hlt, if_neg (by omega)]

set_option maxHeartbeats 4000000 in
set_option maxRecDepth 100000 in
theorem s_fill_17 {X : AX} {d : Nat} {σ : SG} (ho : ScOK σ 17) : Ev X 0 0 (d + 3) mX3_fill 0 [some (rv 39), some (rv 17), none] [] σ (QV (fun σ' => LgI σ σ' 17 ∧ Fr [37, 38, 39, 40, 41, 42] σ σ')) := by
  refine e_iconst (pc' := 1) dX3_fill_0 rfl ?_
  refine e_istore_n (pc' := 2) (L' := [some (rv 39), some (rv 17), some (iv 0)]) dX3_fill_1 rfl (by decide) rfl ?_
  refine e_iload_n (pc' := 3) dX3_fill_2 rfl rfl ?_
  refine e_iconst (pc' := 4) dX3_fill_3 rfl ?_
  refine e_icmpI (pc' := 7) (t := 27) dX3_fill_4 (by decide) rfl ⟨by omega, by omega⟩ ⟨by omega, by omega⟩ (fun c2_1 => absurd (show 3 ≤ (0 : Int) from c2_1) (by decide)) (fun _ => ?_)
  refine e_aload_n (pc' := 8) dX3_fill_7 rfl rfl ?_
  refine e_getR (pc' := 11) dX3_fill_8 rfl f_3_9 h_39 rfl ?_
  refine e_iload_n (pc' := 12) dX3_fill_11 rfl rfl ?_
  refine e_iconst (pc' := 13) dX3_fill_12 rfl ?_
  refine e_iast (pc' := 14) dX3_fill_13 rfl h_40 (by decide) (by omega) (by omega) ?_
  refine e_aload_n (pc' := 15) dX3_fill_14 rfl rfl ?_
  refine e_getR (pc' := 18) dX3_fill_15 rfl f_3_15 h_39 rfl ?_
  refine e_iload_n (pc' := 19) dX3_fill_18 rfl rfl ?_
  refine e_iconst (pc' := 20) dX3_fill_19 rfl ?_
  refine e_iast (pc' := 21) dX3_fill_20 rfl h_41 (by decide) (by omega) (by omega) ?_
  refine e_iinc (pc' := 24) (L' := [some (rv 39), some (rv 17), some (iv 1)]) dX3_fill_21 rfl rfl (by decide) rfl ?_
  refine e_goto (pc' := 2) dX3_fill_24 (by decide) ?_
  refine e_iload_n (pc' := 3) dX3_fill_2 rfl rfl ?_
  refine e_iconst (pc' := 4) dX3_fill_3 rfl ?_
  refine e_icmpI (pc' := 7) (t := 27) dX3_fill_4 (by decide) rfl ⟨by omega, by omega⟩ ⟨by omega, by omega⟩ (fun c2_2 => absurd (show 3 ≤ (1 : Int) from c2_2) (by decide)) (fun _ => ?_)
  refine e_aload_n (pc' := 8) dX3_fill_7 rfl rfl ?_
  refine e_getR (pc' := 11) dX3_fill_8 rfl f_3_9 h_39 rfl ?_
  refine e_iload_n (pc' := 12) dX3_fill_11 rfl rfl ?_
  refine e_iconst (pc' := 13) dX3_fill_12 rfl ?_
  refine e_iast (pc' := 14) dX3_fill_13 rfl h_40 (by decide) (by omega) (by omega) ?_
  refine e_aload_n (pc' := 15) dX3_fill_14 rfl rfl ?_
  refine e_getR (pc' := 18) dX3_fill_15 rfl f_3_15 h_39 rfl ?_
  refine e_iload_n (pc' := 19) dX3_fill_18 rfl rfl ?_
  refine e_iconst (pc' := 20) dX3_fill_19 rfl ?_
  refine e_iast (pc' := 21) dX3_fill_20 rfl h_41 (by decide) (by omega) (by omega) ?_
  refine e_iinc (pc' := 24) (L' := [some (rv 39), some (rv 17), some (iv 2)]) dX3_fill_21 rfl rfl (by decide) rfl ?_
  refine e_goto (pc' := 2) dX3_fill_24 (by decide) ?_
  refine e_iload_n (pc' := 3) dX3_fill_2 rfl rfl ?_
  refine e_iconst (pc' := 4) dX3_fill_3 rfl ?_
  refine e_icmpI (pc' := 7) (t := 27) dX3_fill_4 (by decide) rfl ⟨by omega, by omega⟩ ⟨by omega, by omega⟩ (fun c2_3 => absurd (show 3 ≤ (2 : Int) from c2_3) (by decide)) (fun _ => ?_)
  refine e_aload_n (pc' := 8) dX3_fill_7 rfl rfl ?_
  refine e_getR (pc' := 11) dX3_fill_8 rfl f_3_9 h_39 rfl ?_
  refine e_iload_n (pc' := 12) dX3_fill_11 rfl rfl ?_
  refine e_iconst (pc' := 13) dX3_fill_12 rfl ?_
  refine e_iast (pc' := 14) dX3_fill_13 rfl h_40 (by decide) (by omega) (by omega) ?_
  refine e_aload_n (pc' := 15) dX3_fill_14 rfl rfl ?_
  refine e_getR (pc' := 18) dX3_fill_15 rfl f_3_15 h_39 rfl ?_
  refine e_iload_n (pc' := 19) dX3_fill_18 rfl rfl ?_
  refine e_iconst (pc' := 20) dX3_fill_19 rfl ?_
  refine e_iast (pc' := 21) dX3_fill_20 rfl h_41 (by decide) (by omega) (by omega) ?_
  refine e_iinc (pc' := 24) (L' := [some (rv 39), some (rv 17), some (iv 3)]) dX3_fill_21 rfl rfl (by decide) rfl ?_
  refine e_goto (pc' := 2) dX3_fill_24 (by decide) ?_
  refine e_iload_n (pc' := 3) dX3_fill_2 rfl rfl ?_
  refine e_iconst (pc' := 4) dX3_fill_3 rfl ?_
  refine e_icmpI (pc' := 7) (t := 27) dX3_fill_4 (by decide) rfl ⟨by omega, by omega⟩ ⟨by omega, by omega⟩ (fun _ => ?_) (fun c2_4 => absurd (show 3 ≤ (3 : Int) by decide) c2_4)
  refine e_iconst (pc' := 28) dX3_fill_27 rfl ?_
  refine e_istore_n (pc' := 29) (L' := [some (rv 39), some (rv 17), some (iv 0)]) dX3_fill_28 rfl (by decide) rfl ?_
  have h9 : σ.1 17 9 = 0 ∨ σ.1 17 9 = 1 ∨ σ.1 17 9 = 2 := by have := ho.2.2.2.1; omega
  have h7 := ho.2.1
  rcases h9 with h9 | h9 | h9
  · exact l_fill_17_0 ho h9 (σ.1 17 7 + 1).toNat _ _ (by omega) (by omega) (by omega) (three_of ⟨rfl, rfl⟩ ⟨rfl, rfl⟩ ⟨rfl, rfl⟩) (by repeat (first | exact Fr.rf | (refine fr_I ?_ (by decide)) | (refine fr_J ?_ (by decide)) | (refine fr_C ?_ (by decide))))
  · exact l_fill_17_1 ho h9 (σ.1 17 7 + 1).toNat _ _ (by omega) (by omega) (by omega) (three_of ⟨rfl, rfl⟩ ⟨rfl, rfl⟩ ⟨rfl, rfl⟩) (by repeat (first | exact Fr.rf | (refine fr_I ?_ (by decide)) | (refine fr_J ?_ (by decide)) | (refine fr_C ?_ (by decide))))
  · exact l_fill_17_2 ho h9 (σ.1 17 7 + 1).toNat _ _ (by omega) (by omega) (by omega) (three_of ⟨rfl, rfl⟩ ⟨rfl, rfl⟩ ⟨rfl, rfl⟩) (by repeat (first | exact Fr.rf | (refine fr_I ?_ (by decide)) | (refine fr_J ?_ (by decide)) | (refine fr_C ?_ (by decide))))
