/-- what the rule would add by each gift of one giver -/
def wbS (σ : SG) (s : Nat) (g w x : Int) : Int := if w < σ.1 s 7 then tlR σ s (seeS (saI (σ.1 (s + 5)) w g (σ.1 s 6)) x) else 0
theorem wbS_rg (σ : SG) (s : Nat) (g w x : Int) : 0 ≤ wbS σ s g w x ∧ wbS σ s g w x ≤ 99 := by
  unfold wbS
  split
  · exact tlR_rg _ _ _
  · decide
theorem seeR {f : Int → Int} {w a : Int} {i : Int} (hi : i ≤ 5) (x : Int) : stR (seeS (saI f w a i) x) := by
  have h1 := seeS_rg (saS_rg f w a i.toNat) x
  have h2 := seeS_ok (saS_ok f w a i.toNat) x
  have h3 : i.toNat ≤ 5 := by omega
  unfold saI
  exact ⟨⟨by omega, by omega⟩, ⟨by omega, by omega⟩, ⟨by have := h2.1; omega, by have := h2.2.1; omega⟩, ⟨by have := h2.2.2.1; omega, by have := h2.2.2.2; omega⟩⟩
/-- the chooser has foreseen: rows 0 .. coin of each work that is there; 0 at first for the others -/
def FsI (σ τ : SG) (s : Nat) (g : Int) : Prop := (∀ w, 0 ≤ w → w < 3 → τ.1 45 w = gfS σ s w - σ.1 (s + 5) (g * 3 + w)) ∧ ∀ w x, 0 ≤ w → w < 3 → 0 ≤ x → (if w < σ.1 s 7 then x ≤ σ.1 (s + 1) g else x = 0) → τ.1 44 (w * 13 + x) = wbS σ s g w x

theorem sameScF_1 {σ τ : SG} (h : Fr [37, 38, 44, 45] σ τ) : SameSc σ τ 1 := fun k h1 h2 => (h k (by simp only [List.mem_cons, List.not_mem_nil, or_false]; omega)).1

set_option maxHeartbeats 4000000 in
set_option maxRecDepth 100000 in
theorem l_foreN_1_0 {X : AX} {d : Nat} {σ : SG} (ho : ScOK σ 1) (h9 : σ.1 1 9 = 0) (g : Int) (hg : 0 ≤ g ∧ g < 5) {K : Nat} (ihi : ∀ (i : Int) (τ : SG) (x5 : Option AV), 0 ≤ i → i ≤ σ.1 1 7 → σ.1 1 7 - i < K → (∀ w, 0 ≤ w → w < 3 → τ.1 45 w = gfS σ 1 w - σ.1 6 (g * 3 + w)) → (∀ w x, 0 ≤ w → w < 3 → 0 ≤ x → (if w < i ∨ (w = i ∧ x < 0) then x ≤ (σ.1 2 g) else (x = 0 ∧ ¬ w < σ.1 1 7)) → τ.1 44 (w * 13 + x) = wbS σ 1 g w x) → Fr [37, 38, 44, 45] σ τ → Ev X 0 0 (d + 3) mX0_foresee 60 [some (rv 43), some (rv 1), some (iv g), some (rv 37), some (iv i), x5] [] τ (QV (fun σ' => FsI σ σ' 1 g ∧ Fr [37, 38, 44, 45] σ σ'))) (i : Int) (hi0 : 0 ≤ i) (hi1 : i < σ.1 1 7) (hiK : σ.1 1 7 - i < K + 1) : ∀ (k : Nat) (n : Int) (τ : SG), 0 ≤ n → n ≤ (σ.1 2 g) + 1 → (σ.1 2 g) + 1 - n < k → 0 ≤ i → (∀ w, 0 ≤ w → w < 3 → τ.1 45 w = gfS σ 1 w - σ.1 6 (g * 3 + w)) → (∀ w x, 0 ≤ w → w < 3 → 0 ≤ x → (if w < i ∨ (w = i ∧ x < n) then x ≤ (σ.1 2 g) else (x = 0 ∧ ¬ w < σ.1 1 7)) → τ.1 44 (w * 13 + x) = wbS σ 1 g w x) → Fr [37, 38, 44, 45] σ τ → Ev X 0 0 (d + 3) mX0_foresee 72 [some (rv 43), some (rv 1), some (iv g), some (rv 37), some (iv i), some (iv n)] [] τ (QV (fun σ' => FsI σ σ' 1 g ∧ Fr [37, 38, 44, 45] σ σ')) := by
  intro k
  induction k with
  | zero => intros; omega
  | succ k ih =>
  intro n τ hn0 hn1 hnk _ hO hW hF
  have hoτ : ScOK τ 1 := ho.cg (sameScF_1 hF)
  have e1 : τ.1 1 = σ.1 1 := (hF 1 (by decide)).1
  have e5 : τ.1 6 = σ.1 6 := (hF 6 (by decide)).1
  have h7 := ho.2.1
  have h9r := ho.2.2.2.1
  have hco : 0 ≤ σ.1 2 g ∧ σ.1 2 g ≤ 12 := ho.2.2.2.2.2.2.2.2.2.2.1 g hg.1 hg.2
  refine e_iload (pc' := 74) dX0_foresee_72 rfl rfl ?_
  refine e_aload_n (pc' := 75) dX0_foresee_74 rfl rfl ?_
  refine e_getR (pc' := 78) dX0_foresee_75 rfl f_0_52 h_1 rfl ?_
  refine e_iload_n (pc' := 79) dX0_foresee_78 rfl rfl ?_
  refine e_iald (pc' := 80) (v := (σ.1 2 g)) dX0_foresee_79 rfl h_2 (by decide) (by omega) (by omega) ((congrFun (hF 2 (by decide)).1 g).trans rfl) ?_
  refine e_icmpI (pc' := 83) (t := 129) dX0_foresee_80 (by decide) rfl ⟨by omega, by omega⟩ ⟨by omega, by omega⟩ (fun (c2_1 : (σ.1 2 g) < (n : Int)) => ?_) (fun (c2_1 : ¬ ((σ.1 2 g) < (n : Int))) => ?_)
  · refine e_iinc (pc' := 132) (L' := [some (rv 43), some (rv 1), some (iv g), some (rv 37), some (iv (i + 1)), some (iv n)]) dX0_foresee_129 rfl rfl (by decide) rfl ?_
    refine e_goto (pc' := 60) dX0_foresee_132 (by decide) ?_
    exact ihi _ _ _ (by omega) (by omega) (by omega) hO (fun w x a c e h => hW w x a c e (by
      by_cases hlt : w < i + 1 ∨ (w = i + 1 ∧ x < 0)
      · rw [if_pos hlt] at h; rw [if_pos (by omega)]; exact h
      · rw [if_neg hlt] at h; rw [if_neg (by omega)]; exact h)) hF
  · refine e_aload_n (pc' := 84) dX0_foresee_83 rfl rfl ?_
    refine e_aload_n (pc' := 85) dX0_foresee_84 rfl rfl ?_
    refine e_iload (pc' := 87) dX0_foresee_85 rfl rfl ?_
    refine e_iload_n (pc' := 88) dX0_foresee_87 rfl rfl ?_
    refine e_cv3v (pc' := 91) dX0_foresee_88 rfl k_0_72 h_37 rfl (Nat.le_of_ble_eq_true rfl) rfl rfl ⟨rfl, rfl⟩ ⟨Nat.zero_le _, Nat.zero_le _⟩ (s_seeAllBut_1 hoτ.1 hoτ.2.2.2.2.2.2.1 i g ⟨by omega, by omega⟩ ⟨by omega, by omega⟩) ?_
    rintro τ1 ⟨hS1, hG1⟩
    rw [e1, e5] at hS1
    refine e_aload_n (pc' := 92) dX0_foresee_91 rfl rfl ?_
    refine e_iload (pc' := 94) dX0_foresee_92 rfl rfl ?_
    refine e_cv1v (pc' := 97) dX0_foresee_94 rfl k_0_78 h_37 rfl (Nat.le_of_ble_eq_true rfl) rfl rfl ⟨rfl, rfl⟩ ⟨Nat.zero_le _, Nat.zero_le _⟩ (s_see (saI (σ.1 6) i g (σ.1 1 6)) n hS1 (saS_ok _ _ _ _) ⟨by omega, by omega⟩) ?_
    rintro τ2 ⟨hS2, hG2⟩
    have hF2 : Fr [37, 38, 44, 45] σ τ2 := hF.tr ((hG1.tr hG2).mono (by decide))
    have hoτ2 : ScOK τ2 1 := ho.cg (sameScF_1 hF2)
    have h9τ : τ2.1 1 9 = 0 := (congrFun (hF2 1 (by decide)).1 9).trans h9
    refine e_aload_n (pc' := 98) dX0_foresee_97 rfl rfl ?_
    refine e_getR (pc' := 101) dX0_foresee_98 rfl f_0_9 h_43 rfl ?_
    refine e_iload (pc' := 103) dX0_foresee_101 rfl rfl ?_
    refine e_bipush (pc' := 105) (z := 13) dX0_foresee_103 rfl (by decide) ?_
    refine e_imul (pc' := 106) dX0_foresee_105 rfl ?_
    refine e_iload (pc' := 108) dX0_foresee_106 rfl rfl ?_
    refine e_iadd (pc' := 109) dX0_foresee_108 rfl ?_
    refine e_aload_n (pc' := 110) dX0_foresee_109 rfl rfl ?_
    refine e_aload_n (pc' := 111) dX0_foresee_110 rfl rfl ?_
    refine e_getR (pc' := 114) dX0_foresee_111 rfl f_0_82 h_1 rfl ?_
    refine e_aload_n (pc' := 115) dX0_foresee_114 rfl rfl ?_
    refine e_getI (pc' := 118) (v := (σ.1 1 9)) dX0_foresee_115 rfl f_0_86 h_1 rfl ((congrFun (hF2 1 (by decide)).1 9).trans rfl) ?_
    refine e_aald (pc' := 119) (k := 8) dX0_foresee_118 rfl h_7 (by decide) (by decide) (by omega) (by omega) (by rw [h9]; rfl) ?_
    refine e_cv1i (pc' := 122) dX0_foresee_119 rfl k_0_89 h_37 rfl (Nat.le_of_ble_eq_true rfl) rfl rfl ⟨rfl, rfl⟩ ⟨Nat.zero_le _, Nat.zero_le _⟩ (s_told_1_0 hoτ2 h9τ (seeS (saI (σ.1 6) i g (σ.1 1 6)) n) hS2 (seeR (by have := ho.1; omega) n)) ?_
    rintro r3 τ3 ⟨hr3, hG3⟩
    rw [tlR_cg ho (sameScF_1 hF2)] at hr3
    subst hr3
    have hF3 : Fr [37, 38, 44, 45] σ τ3 := hF2.tr (hG3.mono (by decide))
    have q44 : τ3.1 44 = τ.1 44 := ((hG3 44 (by decide)).1.trans (hG2 44 (by decide)).1).trans (hG1 44 (by decide)).1
    have q45 : τ3.1 45 = τ.1 45 := ((hG3 45 (by decide)).1.trans (hG2 45 (by decide)).1).trans (hG1 45 (by decide)).1
    refine e_iast (pc' := 123) dX0_foresee_122 rfl h_44 (by decide) (by omega) (by omega) ?_
    refine e_iinc (pc' := 126) (L' := [some (rv 43), some (rv 1), some (iv g), some (rv 37), some (iv i), some (iv (n + 1))]) dX0_foresee_123 rfl rfl (by decide) rfl ?_
    refine e_goto (pc' := 72) dX0_foresee_126 (by decide) ?_
    refine ih _ _ (by omega) (by omega) (by omega) (by omega) (fun w a c => by show τ3.1 45 w = _; rw [q45]; exact hO w a c) (fun w x a c e h => ?_) (fr_I hF3 (by decide))
    show (if 44 = 44 ∧ w * 13 + x = i * 13 + n then _ else τ3.1 44 (w * 13 + x)) = _
    by_cases hq : w = i ∧ x = n
    · rw [if_pos ⟨rfl, by rw [hq.1, hq.2]⟩, hq.1, hq.2]
      unfold wbS
      rw [if_pos (by omega)]
    · have hx12 : x ≤ 12 := by split at h <;> omega
      rw [if_neg (fun q => hq (by omega)), q44]
      refine hW w x a c e ?_
      by_cases hlt : w < i ∨ (w = i ∧ x < n)
      · rw [if_pos hlt]; rw [if_pos (by omega)] at h; exact h
      · rw [if_neg hlt]; rw [if_neg (by omega)] at h; exact h

set_option maxHeartbeats 4000000 in
set_option maxRecDepth 100000 in
theorem l_foreI_1_0 {X : AX} {d : Nat} {σ : SG} (ho : ScOK σ 1) (h9 : σ.1 1 9 = 0) (g : Int) (hg : 0 ≤ g ∧ g < 5) : ∀ (k : Nat) (i : Int) (τ : SG) (x5 : Option AV), 0 ≤ i → i ≤ σ.1 1 7 → σ.1 1 7 - i < k → (∀ w, 0 ≤ w → w < 3 → τ.1 45 w = gfS σ 1 w - σ.1 6 (g * 3 + w)) → (∀ w x, 0 ≤ w → w < 3 → 0 ≤ x → (if w < i ∨ (w = i ∧ x < 0) then x ≤ (σ.1 2 g) else (x = 0 ∧ ¬ w < σ.1 1 7)) → τ.1 44 (w * 13 + x) = wbS σ 1 g w x) → Fr [37, 38, 44, 45] σ τ → Ev X 0 0 (d + 3) mX0_foresee 60 [some (rv 43), some (rv 1), some (iv g), some (rv 37), some (iv i), x5] [] τ (QV (fun σ' => FsI σ σ' 1 g ∧ Fr [37, 38, 44, 45] σ σ')) := by
  intro k
  induction k with
  | zero => intros; omega
  | succ k ih =>
  intro i τ x5 hi0 hi1 hik hO hW hF
  have hoτ : ScOK τ 1 := ho.cg (sameScF_1 hF)
  have e1 : τ.1 1 = σ.1 1 := (hF 1 (by decide)).1
  have e5 : τ.1 6 = σ.1 6 := (hF 6 (by decide)).1
  have h7 := ho.2.1
  have h9r := ho.2.2.2.1
  have hco : 0 ≤ σ.1 2 g ∧ σ.1 2 g ≤ 12 := ho.2.2.2.2.2.2.2.2.2.2.1 g hg.1 hg.2
  refine e_iload (pc' := 62) dX0_foresee_60 rfl rfl ?_
  refine e_aload_n (pc' := 63) dX0_foresee_62 rfl rfl ?_
  refine e_getI (pc' := 66) (v := (σ.1 1 7)) dX0_foresee_63 rfl f_0_55 h_1 rfl ((congrFun (hF 1 (by decide)).1 7).trans rfl) ?_
  refine e_icmpI (pc' := 69) (t := 135) dX0_foresee_66 (by decide) rfl ⟨by omega, by omega⟩ ⟨by omega, by omega⟩ (fun (c2_1 : (σ.1 1 7) ≤ (i : Int)) => ?_) (fun (c2_1 : ¬ ((σ.1 1 7) ≤ (i : Int))) => ?_)
  · exact e_vret dX0_foresee_135 rfl ⟨rfl, Nat.le_refl _⟩ ⟨rfl, ⟨hO, fun w x a c e h => hW w x a c e (by
    by_cases hlt : w < i ∨ (w = i ∧ x < 0)
    · rw [if_pos hlt]; rw [if_pos (by omega)] at h; exact h
    · rw [if_neg hlt]; rw [if_neg (by omega)] at h; exact ⟨h, by omega⟩)⟩, hF⟩
  · refine e_iconst (pc' := 70) dX0_foresee_69 rfl ?_
    refine e_istore (pc' := 72) (L' := [some (rv 43), some (rv 1), some (iv g), some (rv 37), some (iv i), some (iv 0)]) dX0_foresee_70 rfl (by decide) rfl ?_
    exact l_foreN_1_0 ho h9 g hg ih i (by omega) (by omega) (by omega) ((σ.1 2 g) + 2).toNat 0 τ (by omega) (by omega) (by omega) (by omega) hO hW hF

set_option maxHeartbeats 4000000 in
set_option maxRecDepth 100000 in
theorem l_foreN_1_1 {X : AX} {d : Nat} {σ : SG} (ho : ScOK σ 1) (h9 : σ.1 1 9 = 1) (g : Int) (hg : 0 ≤ g ∧ g < 5) {K : Nat} (ihi : ∀ (i : Int) (τ : SG) (x5 : Option AV), 0 ≤ i → i ≤ σ.1 1 7 → σ.1 1 7 - i < K → (∀ w, 0 ≤ w → w < 3 → τ.1 45 w = gfS σ 1 w - σ.1 6 (g * 3 + w)) → (∀ w x, 0 ≤ w → w < 3 → 0 ≤ x → (if w < i ∨ (w = i ∧ x < 0) then x ≤ (σ.1 2 g) else (x = 0 ∧ ¬ w < σ.1 1 7)) → τ.1 44 (w * 13 + x) = wbS σ 1 g w x) → Fr [37, 38, 44, 45] σ τ → Ev X 0 0 (d + 3) mX0_foresee 60 [some (rv 43), some (rv 1), some (iv g), some (rv 37), some (iv i), x5] [] τ (QV (fun σ' => FsI σ σ' 1 g ∧ Fr [37, 38, 44, 45] σ σ'))) (i : Int) (hi0 : 0 ≤ i) (hi1 : i < σ.1 1 7) (hiK : σ.1 1 7 - i < K + 1) : ∀ (k : Nat) (n : Int) (τ : SG), 0 ≤ n → n ≤ (σ.1 2 g) + 1 → (σ.1 2 g) + 1 - n < k → 0 ≤ i → (∀ w, 0 ≤ w → w < 3 → τ.1 45 w = gfS σ 1 w - σ.1 6 (g * 3 + w)) → (∀ w x, 0 ≤ w → w < 3 → 0 ≤ x → (if w < i ∨ (w = i ∧ x < n) then x ≤ (σ.1 2 g) else (x = 0 ∧ ¬ w < σ.1 1 7)) → τ.1 44 (w * 13 + x) = wbS σ 1 g w x) → Fr [37, 38, 44, 45] σ τ → Ev X 0 0 (d + 3) mX0_foresee 72 [some (rv 43), some (rv 1), some (iv g), some (rv 37), some (iv i), some (iv n)] [] τ (QV (fun σ' => FsI σ σ' 1 g ∧ Fr [37, 38, 44, 45] σ σ')) := by
  intro k
  induction k with
  | zero => intros; omega
  | succ k ih =>
  intro n τ hn0 hn1 hnk _ hO hW hF
  have hoτ : ScOK τ 1 := ho.cg (sameScF_1 hF)
  have e1 : τ.1 1 = σ.1 1 := (hF 1 (by decide)).1
  have e5 : τ.1 6 = σ.1 6 := (hF 6 (by decide)).1
  have h7 := ho.2.1
  have h9r := ho.2.2.2.1
  have hco : 0 ≤ σ.1 2 g ∧ σ.1 2 g ≤ 12 := ho.2.2.2.2.2.2.2.2.2.2.1 g hg.1 hg.2
  refine e_iload (pc' := 74) dX0_foresee_72 rfl rfl ?_
  refine e_aload_n (pc' := 75) dX0_foresee_74 rfl rfl ?_
  refine e_getR (pc' := 78) dX0_foresee_75 rfl f_0_52 h_1 rfl ?_
  refine e_iload_n (pc' := 79) dX0_foresee_78 rfl rfl ?_
  refine e_iald (pc' := 80) (v := (σ.1 2 g)) dX0_foresee_79 rfl h_2 (by decide) (by omega) (by omega) ((congrFun (hF 2 (by decide)).1 g).trans rfl) ?_
  refine e_icmpI (pc' := 83) (t := 129) dX0_foresee_80 (by decide) rfl ⟨by omega, by omega⟩ ⟨by omega, by omega⟩ (fun (c2_1 : (σ.1 2 g) < (n : Int)) => ?_) (fun (c2_1 : ¬ ((σ.1 2 g) < (n : Int))) => ?_)
  · refine e_iinc (pc' := 132) (L' := [some (rv 43), some (rv 1), some (iv g), some (rv 37), some (iv (i + 1)), some (iv n)]) dX0_foresee_129 rfl rfl (by decide) rfl ?_
    refine e_goto (pc' := 60) dX0_foresee_132 (by decide) ?_
    exact ihi _ _ _ (by omega) (by omega) (by omega) hO (fun w x a c e h => hW w x a c e (by
      by_cases hlt : w < i + 1 ∨ (w = i + 1 ∧ x < 0)
      · rw [if_pos hlt] at h; rw [if_pos (by omega)]; exact h
      · rw [if_neg hlt] at h; rw [if_neg (by omega)]; exact h)) hF
  · refine e_aload_n (pc' := 84) dX0_foresee_83 rfl rfl ?_
    refine e_aload_n (pc' := 85) dX0_foresee_84 rfl rfl ?_
    refine e_iload (pc' := 87) dX0_foresee_85 rfl rfl ?_
    refine e_iload_n (pc' := 88) dX0_foresee_87 rfl rfl ?_
    refine e_cv3v (pc' := 91) dX0_foresee_88 rfl k_0_72 h_37 rfl (Nat.le_of_ble_eq_true rfl) rfl rfl ⟨rfl, rfl⟩ ⟨Nat.zero_le _, Nat.zero_le _⟩ (s_seeAllBut_1 hoτ.1 hoτ.2.2.2.2.2.2.1 i g ⟨by omega, by omega⟩ ⟨by omega, by omega⟩) ?_
    rintro τ1 ⟨hS1, hG1⟩
    rw [e1, e5] at hS1
    refine e_aload_n (pc' := 92) dX0_foresee_91 rfl rfl ?_
    refine e_iload (pc' := 94) dX0_foresee_92 rfl rfl ?_
    refine e_cv1v (pc' := 97) dX0_foresee_94 rfl k_0_78 h_37 rfl (Nat.le_of_ble_eq_true rfl) rfl rfl ⟨rfl, rfl⟩ ⟨Nat.zero_le _, Nat.zero_le _⟩ (s_see (saI (σ.1 6) i g (σ.1 1 6)) n hS1 (saS_ok _ _ _ _) ⟨by omega, by omega⟩) ?_
    rintro τ2 ⟨hS2, hG2⟩
    have hF2 : Fr [37, 38, 44, 45] σ τ2 := hF.tr ((hG1.tr hG2).mono (by decide))
    have hoτ2 : ScOK τ2 1 := ho.cg (sameScF_1 hF2)
    have h9τ : τ2.1 1 9 = 1 := (congrFun (hF2 1 (by decide)).1 9).trans h9
    refine e_aload_n (pc' := 98) dX0_foresee_97 rfl rfl ?_
    refine e_getR (pc' := 101) dX0_foresee_98 rfl f_0_9 h_43 rfl ?_
    refine e_iload (pc' := 103) dX0_foresee_101 rfl rfl ?_
    refine e_bipush (pc' := 105) (z := 13) dX0_foresee_103 rfl (by decide) ?_
    refine e_imul (pc' := 106) dX0_foresee_105 rfl ?_
    refine e_iload (pc' := 108) dX0_foresee_106 rfl rfl ?_
    refine e_iadd (pc' := 109) dX0_foresee_108 rfl ?_
    refine e_aload_n (pc' := 110) dX0_foresee_109 rfl rfl ?_
    refine e_aload_n (pc' := 111) dX0_foresee_110 rfl rfl ?_
    refine e_getR (pc' := 114) dX0_foresee_111 rfl f_0_82 h_1 rfl ?_
    refine e_aload_n (pc' := 115) dX0_foresee_114 rfl rfl ?_
    refine e_getI (pc' := 118) (v := (σ.1 1 9)) dX0_foresee_115 rfl f_0_86 h_1 rfl ((congrFun (hF2 1 (by decide)).1 9).trans rfl) ?_
    refine e_aald (pc' := 119) (k := 11) dX0_foresee_118 rfl h_7 (by decide) (by decide) (by omega) (by omega) (by rw [h9]; rfl) ?_
    refine e_cv1i (pc' := 122) dX0_foresee_119 rfl k_0_89 h_37 rfl (Nat.le_of_ble_eq_true rfl) rfl rfl ⟨rfl, rfl⟩ ⟨Nat.zero_le _, Nat.zero_le _⟩ (s_told_1_1 hoτ2 h9τ (seeS (saI (σ.1 6) i g (σ.1 1 6)) n) hS2 (seeR (by have := ho.1; omega) n)) ?_
    rintro r3 τ3 ⟨hr3, hG3⟩
    rw [tlR_cg ho (sameScF_1 hF2)] at hr3
    subst hr3
    have hF3 : Fr [37, 38, 44, 45] σ τ3 := hF2.tr (hG3.mono (by decide))
    have q44 : τ3.1 44 = τ.1 44 := ((hG3 44 (by decide)).1.trans (hG2 44 (by decide)).1).trans (hG1 44 (by decide)).1
    have q45 : τ3.1 45 = τ.1 45 := ((hG3 45 (by decide)).1.trans (hG2 45 (by decide)).1).trans (hG1 45 (by decide)).1
    refine e_iast (pc' := 123) dX0_foresee_122 rfl h_44 (by decide) (by omega) (by omega) ?_
    refine e_iinc (pc' := 126) (L' := [some (rv 43), some (rv 1), some (iv g), some (rv 37), some (iv i), some (iv (n + 1))]) dX0_foresee_123 rfl rfl (by decide) rfl ?_
    refine e_goto (pc' := 72) dX0_foresee_126 (by decide) ?_
    refine ih _ _ (by omega) (by omega) (by omega) (by omega) (fun w a c => by show τ3.1 45 w = _; rw [q45]; exact hO w a c) (fun w x a c e h => ?_) (fr_I hF3 (by decide))
    show (if 44 = 44 ∧ w * 13 + x = i * 13 + n then _ else τ3.1 44 (w * 13 + x)) = _
    by_cases hq : w = i ∧ x = n
    · rw [if_pos ⟨rfl, by rw [hq.1, hq.2]⟩, hq.1, hq.2]
      unfold wbS
      rw [if_pos (by omega)]
    · have hx12 : x ≤ 12 := by split at h <;> omega
      rw [if_neg (fun q => hq (by omega)), q44]
      refine hW w x a c e ?_
      by_cases hlt : w < i ∨ (w = i ∧ x < n)
      · rw [if_pos hlt]; rw [if_pos (by omega)] at h; exact h
      · rw [if_neg hlt]; rw [if_neg (by omega)] at h; exact h

set_option maxHeartbeats 4000000 in
set_option maxRecDepth 100000 in
theorem l_foreI_1_1 {X : AX} {d : Nat} {σ : SG} (ho : ScOK σ 1) (h9 : σ.1 1 9 = 1) (g : Int) (hg : 0 ≤ g ∧ g < 5) : ∀ (k : Nat) (i : Int) (τ : SG) (x5 : Option AV), 0 ≤ i → i ≤ σ.1 1 7 → σ.1 1 7 - i < k → (∀ w, 0 ≤ w → w < 3 → τ.1 45 w = gfS σ 1 w - σ.1 6 (g * 3 + w)) → (∀ w x, 0 ≤ w → w < 3 → 0 ≤ x → (if w < i ∨ (w = i ∧ x < 0) then x ≤ (σ.1 2 g) else (x = 0 ∧ ¬ w < σ.1 1 7)) → τ.1 44 (w * 13 + x) = wbS σ 1 g w x) → Fr [37, 38, 44, 45] σ τ → Ev X 0 0 (d + 3) mX0_foresee 60 [some (rv 43), some (rv 1), some (iv g), some (rv 37), some (iv i), x5] [] τ (QV (fun σ' => FsI σ σ' 1 g ∧ Fr [37, 38, 44, 45] σ σ')) := by
  intro k
  induction k with
  | zero => intros; omega
  | succ k ih =>
  intro i τ x5 hi0 hi1 hik hO hW hF
  have hoτ : ScOK τ 1 := ho.cg (sameScF_1 hF)
  have e1 : τ.1 1 = σ.1 1 := (hF 1 (by decide)).1
  have e5 : τ.1 6 = σ.1 6 := (hF 6 (by decide)).1
  have h7 := ho.2.1
  have h9r := ho.2.2.2.1
  have hco : 0 ≤ σ.1 2 g ∧ σ.1 2 g ≤ 12 := ho.2.2.2.2.2.2.2.2.2.2.1 g hg.1 hg.2
  refine e_iload (pc' := 62) dX0_foresee_60 rfl rfl ?_
  refine e_aload_n (pc' := 63) dX0_foresee_62 rfl rfl ?_
  refine e_getI (pc' := 66) (v := (σ.1 1 7)) dX0_foresee_63 rfl f_0_55 h_1 rfl ((congrFun (hF 1 (by decide)).1 7).trans rfl) ?_
  refine e_icmpI (pc' := 69) (t := 135) dX0_foresee_66 (by decide) rfl ⟨by omega, by omega⟩ ⟨by omega, by omega⟩ (fun (c2_1 : (σ.1 1 7) ≤ (i : Int)) => ?_) (fun (c2_1 : ¬ ((σ.1 1 7) ≤ (i : Int))) => ?_)
  · exact e_vret dX0_foresee_135 rfl ⟨rfl, Nat.le_refl _⟩ ⟨rfl, ⟨hO, fun w x a c e h => hW w x a c e (by
    by_cases hlt : w < i ∨ (w = i ∧ x < 0)
    · rw [if_pos hlt]; rw [if_pos (by omega)] at h; exact h
    · rw [if_neg hlt]; rw [if_neg (by omega)] at h; exact ⟨h, by omega⟩)⟩, hF⟩
  · refine e_iconst (pc' := 70) dX0_foresee_69 rfl ?_
    refine e_istore (pc' := 72) (L' := [some (rv 43), some (rv 1), some (iv g), some (rv 37), some (iv i), some (iv 0)]) dX0_foresee_70 rfl (by decide) rfl ?_
    exact l_foreN_1_1 ho h9 g hg ih i (by omega) (by omega) (by omega) ((σ.1 2 g) + 2).toNat 0 τ (by omega) (by omega) (by omega) (by omega) hO hW hF

set_option maxHeartbeats 4000000 in
set_option maxRecDepth 100000 in
theorem l_foreN_1_2 {X : AX} {d : Nat} {σ : SG} (ho : ScOK σ 1) (h9 : σ.1 1 9 = 2) (g : Int) (hg : 0 ≤ g ∧ g < 5) {K : Nat} (ihi : ∀ (i : Int) (τ : SG) (x5 : Option AV), 0 ≤ i → i ≤ σ.1 1 7 → σ.1 1 7 - i < K → (∀ w, 0 ≤ w → w < 3 → τ.1 45 w = gfS σ 1 w - σ.1 6 (g * 3 + w)) → (∀ w x, 0 ≤ w → w < 3 → 0 ≤ x → (if w < i ∨ (w = i ∧ x < 0) then x ≤ (σ.1 2 g) else (x = 0 ∧ ¬ w < σ.1 1 7)) → τ.1 44 (w * 13 + x) = wbS σ 1 g w x) → Fr [37, 38, 44, 45] σ τ → Ev X 0 0 (d + 3) mX0_foresee 60 [some (rv 43), some (rv 1), some (iv g), some (rv 37), some (iv i), x5] [] τ (QV (fun σ' => FsI σ σ' 1 g ∧ Fr [37, 38, 44, 45] σ σ'))) (i : Int) (hi0 : 0 ≤ i) (hi1 : i < σ.1 1 7) (hiK : σ.1 1 7 - i < K + 1) : ∀ (k : Nat) (n : Int) (τ : SG), 0 ≤ n → n ≤ (σ.1 2 g) + 1 → (σ.1 2 g) + 1 - n < k → 0 ≤ i → (∀ w, 0 ≤ w → w < 3 → τ.1 45 w = gfS σ 1 w - σ.1 6 (g * 3 + w)) → (∀ w x, 0 ≤ w → w < 3 → 0 ≤ x → (if w < i ∨ (w = i ∧ x < n) then x ≤ (σ.1 2 g) else (x = 0 ∧ ¬ w < σ.1 1 7)) → τ.1 44 (w * 13 + x) = wbS σ 1 g w x) → Fr [37, 38, 44, 45] σ τ → Ev X 0 0 (d + 3) mX0_foresee 72 [some (rv 43), some (rv 1), some (iv g), some (rv 37), some (iv i), some (iv n)] [] τ (QV (fun σ' => FsI σ σ' 1 g ∧ Fr [37, 38, 44, 45] σ σ')) := by
  intro k
  induction k with
  | zero => intros; omega
  | succ k ih =>
  intro n τ hn0 hn1 hnk _ hO hW hF
  have hoτ : ScOK τ 1 := ho.cg (sameScF_1 hF)
  have e1 : τ.1 1 = σ.1 1 := (hF 1 (by decide)).1
  have e5 : τ.1 6 = σ.1 6 := (hF 6 (by decide)).1
  have h7 := ho.2.1
  have h9r := ho.2.2.2.1
  have hco : 0 ≤ σ.1 2 g ∧ σ.1 2 g ≤ 12 := ho.2.2.2.2.2.2.2.2.2.2.1 g hg.1 hg.2
  refine e_iload (pc' := 74) dX0_foresee_72 rfl rfl ?_
  refine e_aload_n (pc' := 75) dX0_foresee_74 rfl rfl ?_
  refine e_getR (pc' := 78) dX0_foresee_75 rfl f_0_52 h_1 rfl ?_
  refine e_iload_n (pc' := 79) dX0_foresee_78 rfl rfl ?_
  refine e_iald (pc' := 80) (v := (σ.1 2 g)) dX0_foresee_79 rfl h_2 (by decide) (by omega) (by omega) ((congrFun (hF 2 (by decide)).1 g).trans rfl) ?_
  refine e_icmpI (pc' := 83) (t := 129) dX0_foresee_80 (by decide) rfl ⟨by omega, by omega⟩ ⟨by omega, by omega⟩ (fun (c2_1 : (σ.1 2 g) < (n : Int)) => ?_) (fun (c2_1 : ¬ ((σ.1 2 g) < (n : Int))) => ?_)
  · refine e_iinc (pc' := 132) (L' := [some (rv 43), some (rv 1), some (iv g), some (rv 37), some (iv (i + 1)), some (iv n)]) dX0_foresee_129 rfl rfl (by decide) rfl ?_
    refine e_goto (pc' := 60) dX0_foresee_132 (by decide) ?_
    exact ihi _ _ _ (by omega) (by omega) (by omega) hO (fun w x a c e h => hW w x a c e (by
      by_cases hlt : w < i + 1 ∨ (w = i + 1 ∧ x < 0)
      · rw [if_pos hlt] at h; rw [if_pos (by omega)]; exact h
      · rw [if_neg hlt] at h; rw [if_neg (by omega)]; exact h)) hF
  · refine e_aload_n (pc' := 84) dX0_foresee_83 rfl rfl ?_
    refine e_aload_n (pc' := 85) dX0_foresee_84 rfl rfl ?_
    refine e_iload (pc' := 87) dX0_foresee_85 rfl rfl ?_
    refine e_iload_n (pc' := 88) dX0_foresee_87 rfl rfl ?_
    refine e_cv3v (pc' := 91) dX0_foresee_88 rfl k_0_72 h_37 rfl (Nat.le_of_ble_eq_true rfl) rfl rfl ⟨rfl, rfl⟩ ⟨Nat.zero_le _, Nat.zero_le _⟩ (s_seeAllBut_1 hoτ.1 hoτ.2.2.2.2.2.2.1 i g ⟨by omega, by omega⟩ ⟨by omega, by omega⟩) ?_
    rintro τ1 ⟨hS1, hG1⟩
    rw [e1, e5] at hS1
    refine e_aload_n (pc' := 92) dX0_foresee_91 rfl rfl ?_
    refine e_iload (pc' := 94) dX0_foresee_92 rfl rfl ?_
    refine e_cv1v (pc' := 97) dX0_foresee_94 rfl k_0_78 h_37 rfl (Nat.le_of_ble_eq_true rfl) rfl rfl ⟨rfl, rfl⟩ ⟨Nat.zero_le _, Nat.zero_le _⟩ (s_see (saI (σ.1 6) i g (σ.1 1 6)) n hS1 (saS_ok _ _ _ _) ⟨by omega, by omega⟩) ?_
    rintro τ2 ⟨hS2, hG2⟩
    have hF2 : Fr [37, 38, 44, 45] σ τ2 := hF.tr ((hG1.tr hG2).mono (by decide))
    have hoτ2 : ScOK τ2 1 := ho.cg (sameScF_1 hF2)
    have h9τ : τ2.1 1 9 = 2 := (congrFun (hF2 1 (by decide)).1 9).trans h9
    refine e_aload_n (pc' := 98) dX0_foresee_97 rfl rfl ?_
    refine e_getR (pc' := 101) dX0_foresee_98 rfl f_0_9 h_43 rfl ?_
    refine e_iload (pc' := 103) dX0_foresee_101 rfl rfl ?_
    refine e_bipush (pc' := 105) (z := 13) dX0_foresee_103 rfl (by decide) ?_
    refine e_imul (pc' := 106) dX0_foresee_105 rfl ?_
    refine e_iload (pc' := 108) dX0_foresee_106 rfl rfl ?_
    refine e_iadd (pc' := 109) dX0_foresee_108 rfl ?_
    refine e_aload_n (pc' := 110) dX0_foresee_109 rfl rfl ?_
    refine e_aload_n (pc' := 111) dX0_foresee_110 rfl rfl ?_
    refine e_getR (pc' := 114) dX0_foresee_111 rfl f_0_82 h_1 rfl ?_
    refine e_aload_n (pc' := 115) dX0_foresee_114 rfl rfl ?_
    refine e_getI (pc' := 118) (v := (σ.1 1 9)) dX0_foresee_115 rfl f_0_86 h_1 rfl ((congrFun (hF2 1 (by decide)).1 9).trans rfl) ?_
    refine e_aald (pc' := 119) (k := 14) dX0_foresee_118 rfl h_7 (by decide) (by decide) (by omega) (by omega) (by rw [h9]; rfl) ?_
    refine e_cv1i (pc' := 122) dX0_foresee_119 rfl k_0_89 h_37 rfl (Nat.le_of_ble_eq_true rfl) rfl rfl ⟨rfl, rfl⟩ ⟨Nat.zero_le _, Nat.zero_le _⟩ (s_told_1_2 hoτ2 h9τ (seeS (saI (σ.1 6) i g (σ.1 1 6)) n) hS2 (seeR (by have := ho.1; omega) n)) ?_
    rintro r3 τ3 ⟨hr3, hG3⟩
    rw [tlR_cg ho (sameScF_1 hF2)] at hr3
    subst hr3
    have hF3 : Fr [37, 38, 44, 45] σ τ3 := hF2.tr (hG3.mono (by decide))
    have q44 : τ3.1 44 = τ.1 44 := ((hG3 44 (by decide)).1.trans (hG2 44 (by decide)).1).trans (hG1 44 (by decide)).1
    have q45 : τ3.1 45 = τ.1 45 := ((hG3 45 (by decide)).1.trans (hG2 45 (by decide)).1).trans (hG1 45 (by decide)).1
    refine e_iast (pc' := 123) dX0_foresee_122 rfl h_44 (by decide) (by omega) (by omega) ?_
    refine e_iinc (pc' := 126) (L' := [some (rv 43), some (rv 1), some (iv g), some (rv 37), some (iv i), some (iv (n + 1))]) dX0_foresee_123 rfl rfl (by decide) rfl ?_
    refine e_goto (pc' := 72) dX0_foresee_126 (by decide) ?_
    refine ih _ _ (by omega) (by omega) (by omega) (by omega) (fun w a c => by show τ3.1 45 w = _; rw [q45]; exact hO w a c) (fun w x a c e h => ?_) (fr_I hF3 (by decide))
    show (if 44 = 44 ∧ w * 13 + x = i * 13 + n then _ else τ3.1 44 (w * 13 + x)) = _
    by_cases hq : w = i ∧ x = n
    · rw [if_pos ⟨rfl, by rw [hq.1, hq.2]⟩, hq.1, hq.2]
      unfold wbS
      rw [if_pos (by omega)]
    · have hx12 : x ≤ 12 := by split at h <;> omega
      rw [if_neg (fun q => hq (by omega)), q44]
      refine hW w x a c e ?_
      by_cases hlt : w < i ∨ (w = i ∧ x < n)
      · rw [if_pos hlt]; rw [if_pos (by omega)] at h; exact h
      · rw [if_neg hlt]; rw [if_neg (by omega)] at h; exact h

set_option maxHeartbeats 4000000 in
set_option maxRecDepth 100000 in
theorem l_foreI_1_2 {X : AX} {d : Nat} {σ : SG} (ho : ScOK σ 1) (h9 : σ.1 1 9 = 2) (g : Int) (hg : 0 ≤ g ∧ g < 5) : ∀ (k : Nat) (i : Int) (τ : SG) (x5 : Option AV), 0 ≤ i → i ≤ σ.1 1 7 → σ.1 1 7 - i < k → (∀ w, 0 ≤ w → w < 3 → τ.1 45 w = gfS σ 1 w - σ.1 6 (g * 3 + w)) → (∀ w x, 0 ≤ w → w < 3 → 0 ≤ x → (if w < i ∨ (w = i ∧ x < 0) then x ≤ (σ.1 2 g) else (x = 0 ∧ ¬ w < σ.1 1 7)) → τ.1 44 (w * 13 + x) = wbS σ 1 g w x) → Fr [37, 38, 44, 45] σ τ → Ev X 0 0 (d + 3) mX0_foresee 60 [some (rv 43), some (rv 1), some (iv g), some (rv 37), some (iv i), x5] [] τ (QV (fun σ' => FsI σ σ' 1 g ∧ Fr [37, 38, 44, 45] σ σ')) := by
  intro k
  induction k with
  | zero => intros; omega
  | succ k ih =>
  intro i τ x5 hi0 hi1 hik hO hW hF
  have hoτ : ScOK τ 1 := ho.cg (sameScF_1 hF)
  have e1 : τ.1 1 = σ.1 1 := (hF 1 (by decide)).1
  have e5 : τ.1 6 = σ.1 6 := (hF 6 (by decide)).1
  have h7 := ho.2.1
  have h9r := ho.2.2.2.1
  have hco : 0 ≤ σ.1 2 g ∧ σ.1 2 g ≤ 12 := ho.2.2.2.2.2.2.2.2.2.2.1 g hg.1 hg.2
  refine e_iload (pc' := 62) dX0_foresee_60 rfl rfl ?_
  refine e_aload_n (pc' := 63) dX0_foresee_62 rfl rfl ?_
  refine e_getI (pc' := 66) (v := (σ.1 1 7)) dX0_foresee_63 rfl f_0_55 h_1 rfl ((congrFun (hF 1 (by decide)).1 7).trans rfl) ?_
  refine e_icmpI (pc' := 69) (t := 135) dX0_foresee_66 (by decide) rfl ⟨by omega, by omega⟩ ⟨by omega, by omega⟩ (fun (c2_1 : (σ.1 1 7) ≤ (i : Int)) => ?_) (fun (c2_1 : ¬ ((σ.1 1 7) ≤ (i : Int))) => ?_)
  · exact e_vret dX0_foresee_135 rfl ⟨rfl, Nat.le_refl _⟩ ⟨rfl, ⟨hO, fun w x a c e h => hW w x a c e (by
    by_cases hlt : w < i ∨ (w = i ∧ x < 0)
    · rw [if_pos hlt]; rw [if_pos (by omega)] at h; exact h
    · rw [if_neg hlt]; rw [if_neg (by omega)] at h; exact ⟨h, by omega⟩)⟩, hF⟩
  · refine e_iconst (pc' := 70) dX0_foresee_69 rfl ?_
    refine e_istore (pc' := 72) (L' := [some (rv 43), some (rv 1), some (iv g), some (rv 37), some (iv i), some (iv 0)]) dX0_foresee_70 rfl (by decide) rfl ?_
    exact l_foreN_1_2 ho h9 g hg ih i (by omega) (by omega) (by omega) ((σ.1 2 g) + 2).toNat 0 τ (by omega) (by omega) (by omega) (by omega) hO hW hF

set_option maxHeartbeats 4000000 in
set_option maxRecDepth 100000 in
theorem s_foresee_1 {X : AX} {d : Nat} {σ : SG} (ho : ScOK σ 1) (g : Int) (hg : 0 ≤ g ∧ g < 5) (hgf : ∀ w, 0 ≤ w → w < 3 → σ.1 40 w = gfS σ 1 w) : Ev X 0 0 (d + 3) mX0_foresee 0 [some (rv 43), some (rv 1), some (iv g), none, none, none] [] σ (QV (fun σ' => FsI σ σ' 1 g ∧ Fr [37, 38, 44, 45] σ σ')) := by
  refine e_iconst (pc' := 1) dX0_foresee_0 rfl ?_
  refine e_istore_n (pc' := 2) (L' := [some (rv 43), some (rv 1), some (iv g), some (iv 0), none, none]) dX0_foresee_1 rfl (by decide) rfl ?_
  refine e_iload_n (pc' := 3) dX0_foresee_2 rfl rfl ?_
  refine e_iconst (pc' := 4) dX0_foresee_3 rfl ?_
  refine e_icmpI (pc' := 7) (t := 49) dX0_foresee_4 (by decide) rfl ⟨by omega, by omega⟩ ⟨by omega, by omega⟩ (fun c2_1 => absurd (show 3 ≤ (0 : Int) from c2_1) (by decide)) (fun _ => ?_)
  refine e_aload_n (pc' := 8) dX0_foresee_7 rfl rfl ?_
  refine e_getR (pc' := 11) dX0_foresee_8 rfl f_0_15 h_43 rfl ?_
  refine e_iload_n (pc' := 12) dX0_foresee_11 rfl rfl ?_
  refine e_aload_n (pc' := 13) dX0_foresee_12 rfl rfl ?_
  refine e_getR (pc' := 16) dX0_foresee_13 rfl f_0_21 h_43 rfl ?_
  refine e_getR (pc' := 19) dX0_foresee_16 rfl f_0_62 h_39 rfl ?_
  refine e_iload_n (pc' := 20) dX0_foresee_19 rfl rfl ?_
  refine e_iald (pc' := 21) (v := (σ.1 40 0)) dX0_foresee_20 rfl h_40 (by decide) (by omega) (by omega) rfl ?_
  refine e_aload_n (pc' := 22) dX0_foresee_21 rfl rfl ?_
  refine e_getR (pc' := 25) dX0_foresee_22 rfl f_0_65 h_1 rfl ?_
  refine e_iload_n (pc' := 26) dX0_foresee_25 rfl rfl ?_
  refine e_iconst (pc' := 27) dX0_foresee_26 rfl ?_
  refine e_imul (pc' := 28) dX0_foresee_27 rfl ?_
  refine e_iload_n (pc' := 29) dX0_foresee_28 rfl rfl ?_
  refine e_iadd (pc' := 30) dX0_foresee_29 rfl ?_
  refine e_iald (pc' := 31) (v := (σ.1 6 ((g * 3) + 0))) dX0_foresee_30 rfl h_6 (by decide) (by omega) (by omega) rfl ?_
  refine e_isub (pc' := 32) dX0_foresee_31 rfl ?_
  refine e_iast (pc' := 33) dX0_foresee_32 rfl h_45 (by decide) (by omega) (by omega) ?_
  refine e_aload_n (pc' := 34) dX0_foresee_33 rfl rfl ?_
  refine e_getR (pc' := 37) dX0_foresee_34 rfl f_0_9 h_43 rfl ?_
  refine e_iload_n (pc' := 38) dX0_foresee_37 rfl rfl ?_
  refine e_bipush (pc' := 40) (z := 13) dX0_foresee_38 rfl (by decide) ?_
  refine e_imul (pc' := 41) dX0_foresee_40 rfl ?_
  refine e_iconst (pc' := 42) dX0_foresee_41 rfl ?_
  refine e_iast (pc' := 43) dX0_foresee_42 rfl h_44 (by decide) (by omega) (by omega) ?_
  refine e_iinc (pc' := 46) (L' := [some (rv 43), some (rv 1), some (iv g), some (iv 1), none, none]) dX0_foresee_43 rfl rfl (by decide) rfl ?_
  refine e_goto (pc' := 2) dX0_foresee_46 (by decide) ?_
  refine e_iload_n (pc' := 3) dX0_foresee_2 rfl rfl ?_
  refine e_iconst (pc' := 4) dX0_foresee_3 rfl ?_
  refine e_icmpI (pc' := 7) (t := 49) dX0_foresee_4 (by decide) rfl ⟨by omega, by omega⟩ ⟨by omega, by omega⟩ (fun c2_2 => absurd (show 3 ≤ (1 : Int) from c2_2) (by decide)) (fun _ => ?_)
  refine e_aload_n (pc' := 8) dX0_foresee_7 rfl rfl ?_
  refine e_getR (pc' := 11) dX0_foresee_8 rfl f_0_15 h_43 rfl ?_
  refine e_iload_n (pc' := 12) dX0_foresee_11 rfl rfl ?_
  refine e_aload_n (pc' := 13) dX0_foresee_12 rfl rfl ?_
  refine e_getR (pc' := 16) dX0_foresee_13 rfl f_0_21 h_43 rfl ?_
  refine e_getR (pc' := 19) dX0_foresee_16 rfl f_0_62 h_39 rfl ?_
  refine e_iload_n (pc' := 20) dX0_foresee_19 rfl rfl ?_
  refine e_iald (pc' := 21) (v := (σ.1 40 1)) dX0_foresee_20 rfl h_40 (by decide) (by omega) (by omega) rfl ?_
  refine e_aload_n (pc' := 22) dX0_foresee_21 rfl rfl ?_
  refine e_getR (pc' := 25) dX0_foresee_22 rfl f_0_65 h_1 rfl ?_
  refine e_iload_n (pc' := 26) dX0_foresee_25 rfl rfl ?_
  refine e_iconst (pc' := 27) dX0_foresee_26 rfl ?_
  refine e_imul (pc' := 28) dX0_foresee_27 rfl ?_
  refine e_iload_n (pc' := 29) dX0_foresee_28 rfl rfl ?_
  refine e_iadd (pc' := 30) dX0_foresee_29 rfl ?_
  refine e_iald (pc' := 31) (v := (σ.1 6 ((g * 3) + 1))) dX0_foresee_30 rfl h_6 (by decide) (by omega) (by omega) rfl ?_
  refine e_isub (pc' := 32) dX0_foresee_31 rfl ?_
  refine e_iast (pc' := 33) dX0_foresee_32 rfl h_45 (by decide) (by omega) (by omega) ?_
  refine e_aload_n (pc' := 34) dX0_foresee_33 rfl rfl ?_
  refine e_getR (pc' := 37) dX0_foresee_34 rfl f_0_9 h_43 rfl ?_
  refine e_iload_n (pc' := 38) dX0_foresee_37 rfl rfl ?_
  refine e_bipush (pc' := 40) (z := 13) dX0_foresee_38 rfl (by decide) ?_
  refine e_imul (pc' := 41) dX0_foresee_40 rfl ?_
  refine e_iconst (pc' := 42) dX0_foresee_41 rfl ?_
  refine e_iast (pc' := 43) dX0_foresee_42 rfl h_44 (by decide) (by omega) (by omega) ?_
  refine e_iinc (pc' := 46) (L' := [some (rv 43), some (rv 1), some (iv g), some (iv 2), none, none]) dX0_foresee_43 rfl rfl (by decide) rfl ?_
  refine e_goto (pc' := 2) dX0_foresee_46 (by decide) ?_
  refine e_iload_n (pc' := 3) dX0_foresee_2 rfl rfl ?_
  refine e_iconst (pc' := 4) dX0_foresee_3 rfl ?_
  refine e_icmpI (pc' := 7) (t := 49) dX0_foresee_4 (by decide) rfl ⟨by omega, by omega⟩ ⟨by omega, by omega⟩ (fun c2_3 => absurd (show 3 ≤ (2 : Int) from c2_3) (by decide)) (fun _ => ?_)
  refine e_aload_n (pc' := 8) dX0_foresee_7 rfl rfl ?_
  refine e_getR (pc' := 11) dX0_foresee_8 rfl f_0_15 h_43 rfl ?_
  refine e_iload_n (pc' := 12) dX0_foresee_11 rfl rfl ?_
  refine e_aload_n (pc' := 13) dX0_foresee_12 rfl rfl ?_
  refine e_getR (pc' := 16) dX0_foresee_13 rfl f_0_21 h_43 rfl ?_
  refine e_getR (pc' := 19) dX0_foresee_16 rfl f_0_62 h_39 rfl ?_
  refine e_iload_n (pc' := 20) dX0_foresee_19 rfl rfl ?_
  refine e_iald (pc' := 21) (v := (σ.1 40 2)) dX0_foresee_20 rfl h_40 (by decide) (by omega) (by omega) rfl ?_
  refine e_aload_n (pc' := 22) dX0_foresee_21 rfl rfl ?_
  refine e_getR (pc' := 25) dX0_foresee_22 rfl f_0_65 h_1 rfl ?_
  refine e_iload_n (pc' := 26) dX0_foresee_25 rfl rfl ?_
  refine e_iconst (pc' := 27) dX0_foresee_26 rfl ?_
  refine e_imul (pc' := 28) dX0_foresee_27 rfl ?_
  refine e_iload_n (pc' := 29) dX0_foresee_28 rfl rfl ?_
  refine e_iadd (pc' := 30) dX0_foresee_29 rfl ?_
  refine e_iald (pc' := 31) (v := (σ.1 6 ((g * 3) + 2))) dX0_foresee_30 rfl h_6 (by decide) (by omega) (by omega) rfl ?_
  refine e_isub (pc' := 32) dX0_foresee_31 rfl ?_
  refine e_iast (pc' := 33) dX0_foresee_32 rfl h_45 (by decide) (by omega) (by omega) ?_
  refine e_aload_n (pc' := 34) dX0_foresee_33 rfl rfl ?_
  refine e_getR (pc' := 37) dX0_foresee_34 rfl f_0_9 h_43 rfl ?_
  refine e_iload_n (pc' := 38) dX0_foresee_37 rfl rfl ?_
  refine e_bipush (pc' := 40) (z := 13) dX0_foresee_38 rfl (by decide) ?_
  refine e_imul (pc' := 41) dX0_foresee_40 rfl ?_
  refine e_iconst (pc' := 42) dX0_foresee_41 rfl ?_
  refine e_iast (pc' := 43) dX0_foresee_42 rfl h_44 (by decide) (by omega) (by omega) ?_
  refine e_iinc (pc' := 46) (L' := [some (rv 43), some (rv 1), some (iv g), some (iv 3), none, none]) dX0_foresee_43 rfl rfl (by decide) rfl ?_
  refine e_goto (pc' := 2) dX0_foresee_46 (by decide) ?_
  refine e_iload_n (pc' := 3) dX0_foresee_2 rfl rfl ?_
  refine e_iconst (pc' := 4) dX0_foresee_3 rfl ?_
  refine e_icmpI (pc' := 7) (t := 49) dX0_foresee_4 (by decide) rfl ⟨by omega, by omega⟩ ⟨by omega, by omega⟩ (fun _ => ?_) (fun c2_4 => absurd (show 3 ≤ (3 : Int) by decide) c2_4)
  refine e_aload_n (pc' := 50) dX0_foresee_49 rfl rfl ?_
  refine e_getR (pc' := 53) dX0_foresee_50 rfl f_0_21 h_43 rfl ?_
  refine e_getR (pc' := 56) dX0_foresee_53 rfl f_0_68 h_39 rfl ?_
  refine e_astore_n (pc' := 57) (L' := [some (rv 43), some (rv 1), some (iv g), some (rv 37), none, none]) dX0_foresee_56 rfl (by decide) rfl ?_
  refine e_iconst (pc' := 58) dX0_foresee_57 rfl ?_
  refine e_istore (pc' := 60) (L' := [some (rv 43), some (rv 1), some (iv g), some (rv 37), some (iv 0), none]) dX0_foresee_58 rfl (by decide) rfl ?_
  have h9 : σ.1 1 9 = 0 ∨ σ.1 1 9 = 1 ∨ σ.1 1 9 = 2 := by have := ho.2.2.2.1; omega
  have h7 := ho.2.1
  have hO : ∀ w, 0 ≤ w → w < 3 → ((upI (upI (upI (upI (upI (upI σ 45 0 ((σ.1 40 0) - (σ.1 6 ((g * 3) + 0)))) 44 (0 * 13) 0) 45 1 ((σ.1 40 1) - (σ.1 6 ((g * 3) + 1)))) 44 (1 * 13) 0) 45 2 ((σ.1 40 2) - (σ.1 6 ((g * 3) + 2)))) 44 (2 * 13) 0)).1 45 w = gfS σ 1 w - σ.1 6 (g * 3 + w) := three_of (by show σ.1 40 0 - _ = _; rw [hgf 0 (by decide) (by decide)]) (by show σ.1 40 1 - _ = _; rw [hgf 1 (by decide) (by decide)]) (by show σ.1 40 2 - _ = _; rw [hgf 2 (by decide) (by decide)])
  have hW : ∀ w x, 0 ≤ w → w < 3 → 0 ≤ x → (if w < 0 ∨ (w = 0 ∧ x < 0) then x ≤ (σ.1 2 g) else (x = 0 ∧ ¬ w < σ.1 1 7)) → ((upI (upI (upI (upI (upI (upI σ 45 0 ((σ.1 40 0) - (σ.1 6 ((g * 3) + 0)))) 44 (0 * 13) 0) 45 1 ((σ.1 40 1) - (σ.1 6 ((g * 3) + 1)))) 44 (1 * 13) 0) 45 2 ((σ.1 40 2) - (σ.1 6 ((g * 3) + 2)))) 44 (2 * 13) 0)).1 44 (w * 13 + x) = wbS σ 1 g w x := by
    intro w x a c e h
    rw [if_neg (by omega)] at h
    unfold wbS
    rw [if_neg h.2, h.1]
    have : w = 0 ∨ w = 1 ∨ w = 2 := by omega
    rcases this with rfl | rfl | rfl <;> rfl
  rcases h9 with h9 | h9 | h9
  · exact l_foreI_1_0 ho h9 g hg (σ.1 1 7 + 1).toNat 0 _ _ (by omega) (by omega) (by omega) hO hW (by repeat (first | exact Fr.rf | (refine fr_I ?_ (by decide)) | (refine fr_J ?_ (by decide)) | (refine fr_C ?_ (by decide))))
  · exact l_foreI_1_1 ho h9 g hg (σ.1 1 7 + 1).toNat 0 _ _ (by omega) (by omega) (by omega) hO hW (by repeat (first | exact Fr.rf | (refine fr_I ?_ (by decide)) | (refine fr_J ?_ (by decide)) | (refine fr_C ?_ (by decide))))
  · exact l_foreI_1_2 ho h9 g hg (σ.1 1 7 + 1).toNat 0 _ _ (by omega) (by omega) (by omega) hO hW (by repeat (first | exact Fr.rf | (refine fr_I ?_ (by decide)) | (refine fr_J ?_ (by decide)) | (refine fr_C ?_ (by decide))))

theorem sameScF_17 {σ τ : SG} (h : Fr [37, 38, 44, 45] σ τ) : SameSc σ τ 17 := fun k h1 h2 => (h k (by simp only [List.mem_cons, List.not_mem_nil, or_false]; omega)).1

set_option maxHeartbeats 4000000 in
set_option maxRecDepth 100000 in
theorem l_foreN_17_0 {X : AX} {d : Nat} {σ : SG} (ho : ScOK σ 17) (h9 : σ.1 17 9 = 0) (g : Int) (hg : 0 ≤ g ∧ g < 5) {K : Nat} (ihi : ∀ (i : Int) (τ : SG) (x5 : Option AV), 0 ≤ i → i ≤ σ.1 17 7 → σ.1 17 7 - i < K → (∀ w, 0 ≤ w → w < 3 → τ.1 45 w = gfS σ 17 w - σ.1 22 (g * 3 + w)) → (∀ w x, 0 ≤ w → w < 3 → 0 ≤ x → (if w < i ∨ (w = i ∧ x < 0) then x ≤ (σ.1 18 g) else (x = 0 ∧ ¬ w < σ.1 17 7)) → τ.1 44 (w * 13 + x) = wbS σ 17 g w x) → Fr [37, 38, 44, 45] σ τ → Ev X 0 0 (d + 3) mX0_foresee 60 [some (rv 43), some (rv 17), some (iv g), some (rv 37), some (iv i), x5] [] τ (QV (fun σ' => FsI σ σ' 17 g ∧ Fr [37, 38, 44, 45] σ σ'))) (i : Int) (hi0 : 0 ≤ i) (hi1 : i < σ.1 17 7) (hiK : σ.1 17 7 - i < K + 1) : ∀ (k : Nat) (n : Int) (τ : SG), 0 ≤ n → n ≤ (σ.1 18 g) + 1 → (σ.1 18 g) + 1 - n < k → 0 ≤ i → (∀ w, 0 ≤ w → w < 3 → τ.1 45 w = gfS σ 17 w - σ.1 22 (g * 3 + w)) → (∀ w x, 0 ≤ w → w < 3 → 0 ≤ x → (if w < i ∨ (w = i ∧ x < n) then x ≤ (σ.1 18 g) else (x = 0 ∧ ¬ w < σ.1 17 7)) → τ.1 44 (w * 13 + x) = wbS σ 17 g w x) → Fr [37, 38, 44, 45] σ τ → Ev X 0 0 (d + 3) mX0_foresee 72 [some (rv 43), some (rv 17), some (iv g), some (rv 37), some (iv i), some (iv n)] [] τ (QV (fun σ' => FsI σ σ' 17 g ∧ Fr [37, 38, 44, 45] σ σ')) := by
  intro k
  induction k with
  | zero => intros; omega
  | succ k ih =>
  intro n τ hn0 hn1 hnk _ hO hW hF
  have hoτ : ScOK τ 17 := ho.cg (sameScF_17 hF)
  have e1 : τ.1 17 = σ.1 17 := (hF 17 (by decide)).1
  have e5 : τ.1 22 = σ.1 22 := (hF 22 (by decide)).1
  have h7 := ho.2.1
  have h9r := ho.2.2.2.1
  have hco : 0 ≤ σ.1 18 g ∧ σ.1 18 g ≤ 12 := ho.2.2.2.2.2.2.2.2.2.2.1 g hg.1 hg.2
  refine e_iload (pc' := 74) dX0_foresee_72 rfl rfl ?_
  refine e_aload_n (pc' := 75) dX0_foresee_74 rfl rfl ?_
  refine e_getR (pc' := 78) dX0_foresee_75 rfl f_0_52 h_17 rfl ?_
  refine e_iload_n (pc' := 79) dX0_foresee_78 rfl rfl ?_
  refine e_iald (pc' := 80) (v := (σ.1 18 g)) dX0_foresee_79 rfl h_18 (by decide) (by omega) (by omega) ((congrFun (hF 18 (by decide)).1 g).trans rfl) ?_
  refine e_icmpI (pc' := 83) (t := 129) dX0_foresee_80 (by decide) rfl ⟨by omega, by omega⟩ ⟨by omega, by omega⟩ (fun (c2_1 : (σ.1 18 g) < (n : Int)) => ?_) (fun (c2_1 : ¬ ((σ.1 18 g) < (n : Int))) => ?_)
  · refine e_iinc (pc' := 132) (L' := [some (rv 43), some (rv 17), some (iv g), some (rv 37), some (iv (i + 1)), some (iv n)]) dX0_foresee_129 rfl rfl (by decide) rfl ?_
    refine e_goto (pc' := 60) dX0_foresee_132 (by decide) ?_
    exact ihi _ _ _ (by omega) (by omega) (by omega) hO (fun w x a c e h => hW w x a c e (by
      by_cases hlt : w < i + 1 ∨ (w = i + 1 ∧ x < 0)
      · rw [if_pos hlt] at h; rw [if_pos (by omega)]; exact h
      · rw [if_neg hlt] at h; rw [if_neg (by omega)]; exact h)) hF
  · refine e_aload_n (pc' := 84) dX0_foresee_83 rfl rfl ?_
    refine e_aload_n (pc' := 85) dX0_foresee_84 rfl rfl ?_
    refine e_iload (pc' := 87) dX0_foresee_85 rfl rfl ?_
    refine e_iload_n (pc' := 88) dX0_foresee_87 rfl rfl ?_
    refine e_cv3v (pc' := 91) dX0_foresee_88 rfl k_0_72 h_37 rfl (Nat.le_of_ble_eq_true rfl) rfl rfl ⟨rfl, rfl⟩ ⟨Nat.zero_le _, Nat.zero_le _⟩ (s_seeAllBut_17 hoτ.1 hoτ.2.2.2.2.2.2.1 i g ⟨by omega, by omega⟩ ⟨by omega, by omega⟩) ?_
    rintro τ1 ⟨hS1, hG1⟩
    rw [e1, e5] at hS1
    refine e_aload_n (pc' := 92) dX0_foresee_91 rfl rfl ?_
    refine e_iload (pc' := 94) dX0_foresee_92 rfl rfl ?_
    refine e_cv1v (pc' := 97) dX0_foresee_94 rfl k_0_78 h_37 rfl (Nat.le_of_ble_eq_true rfl) rfl rfl ⟨rfl, rfl⟩ ⟨Nat.zero_le _, Nat.zero_le _⟩ (s_see (saI (σ.1 22) i g (σ.1 17 6)) n hS1 (saS_ok _ _ _ _) ⟨by omega, by omega⟩) ?_
    rintro τ2 ⟨hS2, hG2⟩
    have hF2 : Fr [37, 38, 44, 45] σ τ2 := hF.tr ((hG1.tr hG2).mono (by decide))
    have hoτ2 : ScOK τ2 17 := ho.cg (sameScF_17 hF2)
    have h9τ : τ2.1 17 9 = 0 := (congrFun (hF2 17 (by decide)).1 9).trans h9
    refine e_aload_n (pc' := 98) dX0_foresee_97 rfl rfl ?_
    refine e_getR (pc' := 101) dX0_foresee_98 rfl f_0_9 h_43 rfl ?_
    refine e_iload (pc' := 103) dX0_foresee_101 rfl rfl ?_
    refine e_bipush (pc' := 105) (z := 13) dX0_foresee_103 rfl (by decide) ?_
    refine e_imul (pc' := 106) dX0_foresee_105 rfl ?_
    refine e_iload (pc' := 108) dX0_foresee_106 rfl rfl ?_
    refine e_iadd (pc' := 109) dX0_foresee_108 rfl ?_
    refine e_aload_n (pc' := 110) dX0_foresee_109 rfl rfl ?_
    refine e_aload_n (pc' := 111) dX0_foresee_110 rfl rfl ?_
    refine e_getR (pc' := 114) dX0_foresee_111 rfl f_0_82 h_17 rfl ?_
    refine e_aload_n (pc' := 115) dX0_foresee_114 rfl rfl ?_
    refine e_getI (pc' := 118) (v := (σ.1 17 9)) dX0_foresee_115 rfl f_0_86 h_17 rfl ((congrFun (hF2 17 (by decide)).1 9).trans rfl) ?_
    refine e_aald (pc' := 119) (k := 24) dX0_foresee_118 rfl h_23 (by decide) (by decide) (by omega) (by omega) (by rw [h9]; rfl) ?_
    refine e_cv1i (pc' := 122) dX0_foresee_119 rfl k_0_89 h_37 rfl (Nat.le_of_ble_eq_true rfl) rfl rfl ⟨rfl, rfl⟩ ⟨Nat.zero_le _, Nat.zero_le _⟩ (s_told_17_0 hoτ2 h9τ (seeS (saI (σ.1 22) i g (σ.1 17 6)) n) hS2 (seeR (by have := ho.1; omega) n)) ?_
    rintro r3 τ3 ⟨hr3, hG3⟩
    rw [tlR_cg ho (sameScF_17 hF2)] at hr3
    subst hr3
    have hF3 : Fr [37, 38, 44, 45] σ τ3 := hF2.tr (hG3.mono (by decide))
    have q44 : τ3.1 44 = τ.1 44 := ((hG3 44 (by decide)).1.trans (hG2 44 (by decide)).1).trans (hG1 44 (by decide)).1
    have q45 : τ3.1 45 = τ.1 45 := ((hG3 45 (by decide)).1.trans (hG2 45 (by decide)).1).trans (hG1 45 (by decide)).1
    refine e_iast (pc' := 123) dX0_foresee_122 rfl h_44 (by decide) (by omega) (by omega) ?_
    refine e_iinc (pc' := 126) (L' := [some (rv 43), some (rv 17), some (iv g), some (rv 37), some (iv i), some (iv (n + 1))]) dX0_foresee_123 rfl rfl (by decide) rfl ?_
    refine e_goto (pc' := 72) dX0_foresee_126 (by decide) ?_
    refine ih _ _ (by omega) (by omega) (by omega) (by omega) (fun w a c => by show τ3.1 45 w = _; rw [q45]; exact hO w a c) (fun w x a c e h => ?_) (fr_I hF3 (by decide))
    show (if 44 = 44 ∧ w * 13 + x = i * 13 + n then _ else τ3.1 44 (w * 13 + x)) = _
    by_cases hq : w = i ∧ x = n
    · rw [if_pos ⟨rfl, by rw [hq.1, hq.2]⟩, hq.1, hq.2]
      unfold wbS
      rw [if_pos (by omega)]
    · have hx12 : x ≤ 12 := by split at h <;> omega
      rw [if_neg (fun q => hq (by omega)), q44]
      refine hW w x a c e ?_
      by_cases hlt : w < i ∨ (w = i ∧ x < n)
      · rw [if_pos hlt]; rw [if_pos (by omega)] at h; exact h
      · rw [if_neg hlt]; rw [if_neg (by omega)] at h; exact h

set_option maxHeartbeats 4000000 in
set_option maxRecDepth 100000 in
theorem l_foreI_17_0 {X : AX} {d : Nat} {σ : SG} (ho : ScOK σ 17) (h9 : σ.1 17 9 = 0) (g : Int) (hg : 0 ≤ g ∧ g < 5) : ∀ (k : Nat) (i : Int) (τ : SG) (x5 : Option AV), 0 ≤ i → i ≤ σ.1 17 7 → σ.1 17 7 - i < k → (∀ w, 0 ≤ w → w < 3 → τ.1 45 w = gfS σ 17 w - σ.1 22 (g * 3 + w)) → (∀ w x, 0 ≤ w → w < 3 → 0 ≤ x → (if w < i ∨ (w = i ∧ x < 0) then x ≤ (σ.1 18 g) else (x = 0 ∧ ¬ w < σ.1 17 7)) → τ.1 44 (w * 13 + x) = wbS σ 17 g w x) → Fr [37, 38, 44, 45] σ τ → Ev X 0 0 (d + 3) mX0_foresee 60 [some (rv 43), some (rv 17), some (iv g), some (rv 37), some (iv i), x5] [] τ (QV (fun σ' => FsI σ σ' 17 g ∧ Fr [37, 38, 44, 45] σ σ')) := by
  intro k
  induction k with
  | zero => intros; omega
  | succ k ih =>
  intro i τ x5 hi0 hi1 hik hO hW hF
  have hoτ : ScOK τ 17 := ho.cg (sameScF_17 hF)
  have e1 : τ.1 17 = σ.1 17 := (hF 17 (by decide)).1
  have e5 : τ.1 22 = σ.1 22 := (hF 22 (by decide)).1
  have h7 := ho.2.1
  have h9r := ho.2.2.2.1
  have hco : 0 ≤ σ.1 18 g ∧ σ.1 18 g ≤ 12 := ho.2.2.2.2.2.2.2.2.2.2.1 g hg.1 hg.2
  refine e_iload (pc' := 62) dX0_foresee_60 rfl rfl ?_
  refine e_aload_n (pc' := 63) dX0_foresee_62 rfl rfl ?_
  refine e_getI (pc' := 66) (v := (σ.1 17 7)) dX0_foresee_63 rfl f_0_55 h_17 rfl ((congrFun (hF 17 (by decide)).1 7).trans rfl) ?_
  refine e_icmpI (pc' := 69) (t := 135) dX0_foresee_66 (by decide) rfl ⟨by omega, by omega⟩ ⟨by omega, by omega⟩ (fun (c2_1 : (σ.1 17 7) ≤ (i : Int)) => ?_) (fun (c2_1 : ¬ ((σ.1 17 7) ≤ (i : Int))) => ?_)
  · exact e_vret dX0_foresee_135 rfl ⟨rfl, Nat.le_refl _⟩ ⟨rfl, ⟨hO, fun w x a c e h => hW w x a c e (by
    by_cases hlt : w < i ∨ (w = i ∧ x < 0)
    · rw [if_pos hlt]; rw [if_pos (by omega)] at h; exact h
    · rw [if_neg hlt]; rw [if_neg (by omega)] at h; exact ⟨h, by omega⟩)⟩, hF⟩
  · refine e_iconst (pc' := 70) dX0_foresee_69 rfl ?_
    refine e_istore (pc' := 72) (L' := [some (rv 43), some (rv 17), some (iv g), some (rv 37), some (iv i), some (iv 0)]) dX0_foresee_70 rfl (by decide) rfl ?_
    exact l_foreN_17_0 ho h9 g hg ih i (by omega) (by omega) (by omega) ((σ.1 18 g) + 2).toNat 0 τ (by omega) (by omega) (by omega) (by omega) hO hW hF

set_option maxHeartbeats 4000000 in
set_option maxRecDepth 100000 in
theorem l_foreN_17_1 {X : AX} {d : Nat} {σ : SG} (ho : ScOK σ 17) (h9 : σ.1 17 9 = 1) (g : Int) (hg : 0 ≤ g ∧ g < 5) {K : Nat} (ihi : ∀ (i : Int) (τ : SG) (x5 : Option AV), 0 ≤ i → i ≤ σ.1 17 7 → σ.1 17 7 - i < K → (∀ w, 0 ≤ w → w < 3 → τ.1 45 w = gfS σ 17 w - σ.1 22 (g * 3 + w)) → (∀ w x, 0 ≤ w → w < 3 → 0 ≤ x → (if w < i ∨ (w = i ∧ x < 0) then x ≤ (σ.1 18 g) else (x = 0 ∧ ¬ w < σ.1 17 7)) → τ.1 44 (w * 13 + x) = wbS σ 17 g w x) → Fr [37, 38, 44, 45] σ τ → Ev X 0 0 (d + 3) mX0_foresee 60 [some (rv 43), some (rv 17), some (iv g), some (rv 37), some (iv i), x5] [] τ (QV (fun σ' => FsI σ σ' 17 g ∧ Fr [37, 38, 44, 45] σ σ'))) (i : Int) (hi0 : 0 ≤ i) (hi1 : i < σ.1 17 7) (hiK : σ.1 17 7 - i < K + 1) : ∀ (k : Nat) (n : Int) (τ : SG), 0 ≤ n → n ≤ (σ.1 18 g) + 1 → (σ.1 18 g) + 1 - n < k → 0 ≤ i → (∀ w, 0 ≤ w → w < 3 → τ.1 45 w = gfS σ 17 w - σ.1 22 (g * 3 + w)) → (∀ w x, 0 ≤ w → w < 3 → 0 ≤ x → (if w < i ∨ (w = i ∧ x < n) then x ≤ (σ.1 18 g) else (x = 0 ∧ ¬ w < σ.1 17 7)) → τ.1 44 (w * 13 + x) = wbS σ 17 g w x) → Fr [37, 38, 44, 45] σ τ → Ev X 0 0 (d + 3) mX0_foresee 72 [some (rv 43), some (rv 17), some (iv g), some (rv 37), some (iv i), some (iv n)] [] τ (QV (fun σ' => FsI σ σ' 17 g ∧ Fr [37, 38, 44, 45] σ σ')) := by
  intro k
  induction k with
  | zero => intros; omega
  | succ k ih =>
  intro n τ hn0 hn1 hnk _ hO hW hF
  have hoτ : ScOK τ 17 := ho.cg (sameScF_17 hF)
  have e1 : τ.1 17 = σ.1 17 := (hF 17 (by decide)).1
  have e5 : τ.1 22 = σ.1 22 := (hF 22 (by decide)).1
  have h7 := ho.2.1
  have h9r := ho.2.2.2.1
  have hco : 0 ≤ σ.1 18 g ∧ σ.1 18 g ≤ 12 := ho.2.2.2.2.2.2.2.2.2.2.1 g hg.1 hg.2
  refine e_iload (pc' := 74) dX0_foresee_72 rfl rfl ?_
  refine e_aload_n (pc' := 75) dX0_foresee_74 rfl rfl ?_
  refine e_getR (pc' := 78) dX0_foresee_75 rfl f_0_52 h_17 rfl ?_
  refine e_iload_n (pc' := 79) dX0_foresee_78 rfl rfl ?_
  refine e_iald (pc' := 80) (v := (σ.1 18 g)) dX0_foresee_79 rfl h_18 (by decide) (by omega) (by omega) ((congrFun (hF 18 (by decide)).1 g).trans rfl) ?_
  refine e_icmpI (pc' := 83) (t := 129) dX0_foresee_80 (by decide) rfl ⟨by omega, by omega⟩ ⟨by omega, by omega⟩ (fun (c2_1 : (σ.1 18 g) < (n : Int)) => ?_) (fun (c2_1 : ¬ ((σ.1 18 g) < (n : Int))) => ?_)
  · refine e_iinc (pc' := 132) (L' := [some (rv 43), some (rv 17), some (iv g), some (rv 37), some (iv (i + 1)), some (iv n)]) dX0_foresee_129 rfl rfl (by decide) rfl ?_
    refine e_goto (pc' := 60) dX0_foresee_132 (by decide) ?_
    exact ihi _ _ _ (by omega) (by omega) (by omega) hO (fun w x a c e h => hW w x a c e (by
      by_cases hlt : w < i + 1 ∨ (w = i + 1 ∧ x < 0)
      · rw [if_pos hlt] at h; rw [if_pos (by omega)]; exact h
      · rw [if_neg hlt] at h; rw [if_neg (by omega)]; exact h)) hF
  · refine e_aload_n (pc' := 84) dX0_foresee_83 rfl rfl ?_
    refine e_aload_n (pc' := 85) dX0_foresee_84 rfl rfl ?_
    refine e_iload (pc' := 87) dX0_foresee_85 rfl rfl ?_
    refine e_iload_n (pc' := 88) dX0_foresee_87 rfl rfl ?_
    refine e_cv3v (pc' := 91) dX0_foresee_88 rfl k_0_72 h_37 rfl (Nat.le_of_ble_eq_true rfl) rfl rfl ⟨rfl, rfl⟩ ⟨Nat.zero_le _, Nat.zero_le _⟩ (s_seeAllBut_17 hoτ.1 hoτ.2.2.2.2.2.2.1 i g ⟨by omega, by omega⟩ ⟨by omega, by omega⟩) ?_
    rintro τ1 ⟨hS1, hG1⟩
    rw [e1, e5] at hS1
    refine e_aload_n (pc' := 92) dX0_foresee_91 rfl rfl ?_
    refine e_iload (pc' := 94) dX0_foresee_92 rfl rfl ?_
    refine e_cv1v (pc' := 97) dX0_foresee_94 rfl k_0_78 h_37 rfl (Nat.le_of_ble_eq_true rfl) rfl rfl ⟨rfl, rfl⟩ ⟨Nat.zero_le _, Nat.zero_le _⟩ (s_see (saI (σ.1 22) i g (σ.1 17 6)) n hS1 (saS_ok _ _ _ _) ⟨by omega, by omega⟩) ?_
    rintro τ2 ⟨hS2, hG2⟩
    have hF2 : Fr [37, 38, 44, 45] σ τ2 := hF.tr ((hG1.tr hG2).mono (by decide))
    have hoτ2 : ScOK τ2 17 := ho.cg (sameScF_17 hF2)
    have h9τ : τ2.1 17 9 = 1 := (congrFun (hF2 17 (by decide)).1 9).trans h9
    refine e_aload_n (pc' := 98) dX0_foresee_97 rfl rfl ?_
    refine e_getR (pc' := 101) dX0_foresee_98 rfl f_0_9 h_43 rfl ?_
    refine e_iload (pc' := 103) dX0_foresee_101 rfl rfl ?_
    refine e_bipush (pc' := 105) (z := 13) dX0_foresee_103 rfl (by decide) ?_
    refine e_imul (pc' := 106) dX0_foresee_105 rfl ?_
    refine e_iload (pc' := 108) dX0_foresee_106 rfl rfl ?_
    refine e_iadd (pc' := 109) dX0_foresee_108 rfl ?_
    refine e_aload_n (pc' := 110) dX0_foresee_109 rfl rfl ?_
    refine e_aload_n (pc' := 111) dX0_foresee_110 rfl rfl ?_
    refine e_getR (pc' := 114) dX0_foresee_111 rfl f_0_82 h_17 rfl ?_
    refine e_aload_n (pc' := 115) dX0_foresee_114 rfl rfl ?_
    refine e_getI (pc' := 118) (v := (σ.1 17 9)) dX0_foresee_115 rfl f_0_86 h_17 rfl ((congrFun (hF2 17 (by decide)).1 9).trans rfl) ?_
    refine e_aald (pc' := 119) (k := 27) dX0_foresee_118 rfl h_23 (by decide) (by decide) (by omega) (by omega) (by rw [h9]; rfl) ?_
    refine e_cv1i (pc' := 122) dX0_foresee_119 rfl k_0_89 h_37 rfl (Nat.le_of_ble_eq_true rfl) rfl rfl ⟨rfl, rfl⟩ ⟨Nat.zero_le _, Nat.zero_le _⟩ (s_told_17_1 hoτ2 h9τ (seeS (saI (σ.1 22) i g (σ.1 17 6)) n) hS2 (seeR (by have := ho.1; omega) n)) ?_
    rintro r3 τ3 ⟨hr3, hG3⟩
    rw [tlR_cg ho (sameScF_17 hF2)] at hr3
    subst hr3
    have hF3 : Fr [37, 38, 44, 45] σ τ3 := hF2.tr (hG3.mono (by decide))
    have q44 : τ3.1 44 = τ.1 44 := ((hG3 44 (by decide)).1.trans (hG2 44 (by decide)).1).trans (hG1 44 (by decide)).1
    have q45 : τ3.1 45 = τ.1 45 := ((hG3 45 (by decide)).1.trans (hG2 45 (by decide)).1).trans (hG1 45 (by decide)).1
    refine e_iast (pc' := 123) dX0_foresee_122 rfl h_44 (by decide) (by omega) (by omega) ?_
    refine e_iinc (pc' := 126) (L' := [some (rv 43), some (rv 17), some (iv g), some (rv 37), some (iv i), some (iv (n + 1))]) dX0_foresee_123 rfl rfl (by decide) rfl ?_
    refine e_goto (pc' := 72) dX0_foresee_126 (by decide) ?_
    refine ih _ _ (by omega) (by omega) (by omega) (by omega) (fun w a c => by show τ3.1 45 w = _; rw [q45]; exact hO w a c) (fun w x a c e h => ?_) (fr_I hF3 (by decide))
    show (if 44 = 44 ∧ w * 13 + x = i * 13 + n then _ else τ3.1 44 (w * 13 + x)) = _
    by_cases hq : w = i ∧ x = n
    · rw [if_pos ⟨rfl, by rw [hq.1, hq.2]⟩, hq.1, hq.2]
      unfold wbS
      rw [if_pos (by omega)]
    · have hx12 : x ≤ 12 := by split at h <;> omega
      rw [if_neg (fun q => hq (by omega)), q44]
      refine hW w x a c e ?_
      by_cases hlt : w < i ∨ (w = i ∧ x < n)
      · rw [if_pos hlt]; rw [if_pos (by omega)] at h; exact h
      · rw [if_neg hlt]; rw [if_neg (by omega)] at h; exact h

set_option maxHeartbeats 4000000 in
set_option maxRecDepth 100000 in
theorem l_foreI_17_1 {X : AX} {d : Nat} {σ : SG} (ho : ScOK σ 17) (h9 : σ.1 17 9 = 1) (g : Int) (hg : 0 ≤ g ∧ g < 5) : ∀ (k : Nat) (i : Int) (τ : SG) (x5 : Option AV), 0 ≤ i → i ≤ σ.1 17 7 → σ.1 17 7 - i < k → (∀ w, 0 ≤ w → w < 3 → τ.1 45 w = gfS σ 17 w - σ.1 22 (g * 3 + w)) → (∀ w x, 0 ≤ w → w < 3 → 0 ≤ x → (if w < i ∨ (w = i ∧ x < 0) then x ≤ (σ.1 18 g) else (x = 0 ∧ ¬ w < σ.1 17 7)) → τ.1 44 (w * 13 + x) = wbS σ 17 g w x) → Fr [37, 38, 44, 45] σ τ → Ev X 0 0 (d + 3) mX0_foresee 60 [some (rv 43), some (rv 17), some (iv g), some (rv 37), some (iv i), x5] [] τ (QV (fun σ' => FsI σ σ' 17 g ∧ Fr [37, 38, 44, 45] σ σ')) := by
  intro k
  induction k with
  | zero => intros; omega
  | succ k ih =>
  intro i τ x5 hi0 hi1 hik hO hW hF
  have hoτ : ScOK τ 17 := ho.cg (sameScF_17 hF)
  have e1 : τ.1 17 = σ.1 17 := (hF 17 (by decide)).1
  have e5 : τ.1 22 = σ.1 22 := (hF 22 (by decide)).1
  have h7 := ho.2.1
  have h9r := ho.2.2.2.1
  have hco : 0 ≤ σ.1 18 g ∧ σ.1 18 g ≤ 12 := ho.2.2.2.2.2.2.2.2.2.2.1 g hg.1 hg.2
  refine e_iload (pc' := 62) dX0_foresee_60 rfl rfl ?_
  refine e_aload_n (pc' := 63) dX0_foresee_62 rfl rfl ?_
  refine e_getI (pc' := 66) (v := (σ.1 17 7)) dX0_foresee_63 rfl f_0_55 h_17 rfl ((congrFun (hF 17 (by decide)).1 7).trans rfl) ?_
  refine e_icmpI (pc' := 69) (t := 135) dX0_foresee_66 (by decide) rfl ⟨by omega, by omega⟩ ⟨by omega, by omega⟩ (fun (c2_1 : (σ.1 17 7) ≤ (i : Int)) => ?_) (fun (c2_1 : ¬ ((σ.1 17 7) ≤ (i : Int))) => ?_)
  · exact e_vret dX0_foresee_135 rfl ⟨rfl, Nat.le_refl _⟩ ⟨rfl, ⟨hO, fun w x a c e h => hW w x a c e (by
    by_cases hlt : w < i ∨ (w = i ∧ x < 0)
    · rw [if_pos hlt]; rw [if_pos (by omega)] at h; exact h
    · rw [if_neg hlt]; rw [if_neg (by omega)] at h; exact ⟨h, by omega⟩)⟩, hF⟩
  · refine e_iconst (pc' := 70) dX0_foresee_69 rfl ?_
    refine e_istore (pc' := 72) (L' := [some (rv 43), some (rv 17), some (iv g), some (rv 37), some (iv i), some (iv 0)]) dX0_foresee_70 rfl (by decide) rfl ?_
    exact l_foreN_17_1 ho h9 g hg ih i (by omega) (by omega) (by omega) ((σ.1 18 g) + 2).toNat 0 τ (by omega) (by omega) (by omega) (by omega) hO hW hF

set_option maxHeartbeats 4000000 in
set_option maxRecDepth 100000 in
theorem l_foreN_17_2 {X : AX} {d : Nat} {σ : SG} (ho : ScOK σ 17) (h9 : σ.1 17 9 = 2) (g : Int) (hg : 0 ≤ g ∧ g < 5) {K : Nat} (ihi : ∀ (i : Int) (τ : SG) (x5 : Option AV), 0 ≤ i → i ≤ σ.1 17 7 → σ.1 17 7 - i < K → (∀ w, 0 ≤ w → w < 3 → τ.1 45 w = gfS σ 17 w - σ.1 22 (g * 3 + w)) → (∀ w x, 0 ≤ w → w < 3 → 0 ≤ x → (if w < i ∨ (w = i ∧ x < 0) then x ≤ (σ.1 18 g) else (x = 0 ∧ ¬ w < σ.1 17 7)) → τ.1 44 (w * 13 + x) = wbS σ 17 g w x) → Fr [37, 38, 44, 45] σ τ → Ev X 0 0 (d + 3) mX0_foresee 60 [some (rv 43), some (rv 17), some (iv g), some (rv 37), some (iv i), x5] [] τ (QV (fun σ' => FsI σ σ' 17 g ∧ Fr [37, 38, 44, 45] σ σ'))) (i : Int) (hi0 : 0 ≤ i) (hi1 : i < σ.1 17 7) (hiK : σ.1 17 7 - i < K + 1) : ∀ (k : Nat) (n : Int) (τ : SG), 0 ≤ n → n ≤ (σ.1 18 g) + 1 → (σ.1 18 g) + 1 - n < k → 0 ≤ i → (∀ w, 0 ≤ w → w < 3 → τ.1 45 w = gfS σ 17 w - σ.1 22 (g * 3 + w)) → (∀ w x, 0 ≤ w → w < 3 → 0 ≤ x → (if w < i ∨ (w = i ∧ x < n) then x ≤ (σ.1 18 g) else (x = 0 ∧ ¬ w < σ.1 17 7)) → τ.1 44 (w * 13 + x) = wbS σ 17 g w x) → Fr [37, 38, 44, 45] σ τ → Ev X 0 0 (d + 3) mX0_foresee 72 [some (rv 43), some (rv 17), some (iv g), some (rv 37), some (iv i), some (iv n)] [] τ (QV (fun σ' => FsI σ σ' 17 g ∧ Fr [37, 38, 44, 45] σ σ')) := by
  intro k
  induction k with
  | zero => intros; omega
  | succ k ih =>
  intro n τ hn0 hn1 hnk _ hO hW hF
  have hoτ : ScOK τ 17 := ho.cg (sameScF_17 hF)
  have e1 : τ.1 17 = σ.1 17 := (hF 17 (by decide)).1
  have e5 : τ.1 22 = σ.1 22 := (hF 22 (by decide)).1
  have h7 := ho.2.1
  have h9r := ho.2.2.2.1
  have hco : 0 ≤ σ.1 18 g ∧ σ.1 18 g ≤ 12 := ho.2.2.2.2.2.2.2.2.2.2.1 g hg.1 hg.2
  refine e_iload (pc' := 74) dX0_foresee_72 rfl rfl ?_
  refine e_aload_n (pc' := 75) dX0_foresee_74 rfl rfl ?_
  refine e_getR (pc' := 78) dX0_foresee_75 rfl f_0_52 h_17 rfl ?_
  refine e_iload_n (pc' := 79) dX0_foresee_78 rfl rfl ?_
  refine e_iald (pc' := 80) (v := (σ.1 18 g)) dX0_foresee_79 rfl h_18 (by decide) (by omega) (by omega) ((congrFun (hF 18 (by decide)).1 g).trans rfl) ?_
  refine e_icmpI (pc' := 83) (t := 129) dX0_foresee_80 (by decide) rfl ⟨by omega, by omega⟩ ⟨by omega, by omega⟩ (fun (c2_1 : (σ.1 18 g) < (n : Int)) => ?_) (fun (c2_1 : ¬ ((σ.1 18 g) < (n : Int))) => ?_)
  · refine e_iinc (pc' := 132) (L' := [some (rv 43), some (rv 17), some (iv g), some (rv 37), some (iv (i + 1)), some (iv n)]) dX0_foresee_129 rfl rfl (by decide) rfl ?_
    refine e_goto (pc' := 60) dX0_foresee_132 (by decide) ?_
    exact ihi _ _ _ (by omega) (by omega) (by omega) hO (fun w x a c e h => hW w x a c e (by
      by_cases hlt : w < i + 1 ∨ (w = i + 1 ∧ x < 0)
      · rw [if_pos hlt] at h; rw [if_pos (by omega)]; exact h
      · rw [if_neg hlt] at h; rw [if_neg (by omega)]; exact h)) hF
  · refine e_aload_n (pc' := 84) dX0_foresee_83 rfl rfl ?_
    refine e_aload_n (pc' := 85) dX0_foresee_84 rfl rfl ?_
    refine e_iload (pc' := 87) dX0_foresee_85 rfl rfl ?_
    refine e_iload_n (pc' := 88) dX0_foresee_87 rfl rfl ?_
    refine e_cv3v (pc' := 91) dX0_foresee_88 rfl k_0_72 h_37 rfl (Nat.le_of_ble_eq_true rfl) rfl rfl ⟨rfl, rfl⟩ ⟨Nat.zero_le _, Nat.zero_le _⟩ (s_seeAllBut_17 hoτ.1 hoτ.2.2.2.2.2.2.1 i g ⟨by omega, by omega⟩ ⟨by omega, by omega⟩) ?_
    rintro τ1 ⟨hS1, hG1⟩
    rw [e1, e5] at hS1
    refine e_aload_n (pc' := 92) dX0_foresee_91 rfl rfl ?_
    refine e_iload (pc' := 94) dX0_foresee_92 rfl rfl ?_
    refine e_cv1v (pc' := 97) dX0_foresee_94 rfl k_0_78 h_37 rfl (Nat.le_of_ble_eq_true rfl) rfl rfl ⟨rfl, rfl⟩ ⟨Nat.zero_le _, Nat.zero_le _⟩ (s_see (saI (σ.1 22) i g (σ.1 17 6)) n hS1 (saS_ok _ _ _ _) ⟨by omega, by omega⟩) ?_
    rintro τ2 ⟨hS2, hG2⟩
    have hF2 : Fr [37, 38, 44, 45] σ τ2 := hF.tr ((hG1.tr hG2).mono (by decide))
    have hoτ2 : ScOK τ2 17 := ho.cg (sameScF_17 hF2)
    have h9τ : τ2.1 17 9 = 2 := (congrFun (hF2 17 (by decide)).1 9).trans h9
    refine e_aload_n (pc' := 98) dX0_foresee_97 rfl rfl ?_
    refine e_getR (pc' := 101) dX0_foresee_98 rfl f_0_9 h_43 rfl ?_
    refine e_iload (pc' := 103) dX0_foresee_101 rfl rfl ?_
    refine e_bipush (pc' := 105) (z := 13) dX0_foresee_103 rfl (by decide) ?_
    refine e_imul (pc' := 106) dX0_foresee_105 rfl ?_
    refine e_iload (pc' := 108) dX0_foresee_106 rfl rfl ?_
    refine e_iadd (pc' := 109) dX0_foresee_108 rfl ?_
    refine e_aload_n (pc' := 110) dX0_foresee_109 rfl rfl ?_
    refine e_aload_n (pc' := 111) dX0_foresee_110 rfl rfl ?_
    refine e_getR (pc' := 114) dX0_foresee_111 rfl f_0_82 h_17 rfl ?_
    refine e_aload_n (pc' := 115) dX0_foresee_114 rfl rfl ?_
    refine e_getI (pc' := 118) (v := (σ.1 17 9)) dX0_foresee_115 rfl f_0_86 h_17 rfl ((congrFun (hF2 17 (by decide)).1 9).trans rfl) ?_
    refine e_aald (pc' := 119) (k := 30) dX0_foresee_118 rfl h_23 (by decide) (by decide) (by omega) (by omega) (by rw [h9]; rfl) ?_
    refine e_cv1i (pc' := 122) dX0_foresee_119 rfl k_0_89 h_37 rfl (Nat.le_of_ble_eq_true rfl) rfl rfl ⟨rfl, rfl⟩ ⟨Nat.zero_le _, Nat.zero_le _⟩ (s_told_17_2 hoτ2 h9τ (seeS (saI (σ.1 22) i g (σ.1 17 6)) n) hS2 (seeR (by have := ho.1; omega) n)) ?_
    rintro r3 τ3 ⟨hr3, hG3⟩
    rw [tlR_cg ho (sameScF_17 hF2)] at hr3
    subst hr3
    have hF3 : Fr [37, 38, 44, 45] σ τ3 := hF2.tr (hG3.mono (by decide))
    have q44 : τ3.1 44 = τ.1 44 := ((hG3 44 (by decide)).1.trans (hG2 44 (by decide)).1).trans (hG1 44 (by decide)).1
    have q45 : τ3.1 45 = τ.1 45 := ((hG3 45 (by decide)).1.trans (hG2 45 (by decide)).1).trans (hG1 45 (by decide)).1
    refine e_iast (pc' := 123) dX0_foresee_122 rfl h_44 (by decide) (by omega) (by omega) ?_
    refine e_iinc (pc' := 126) (L' := [some (rv 43), some (rv 17), some (iv g), some (rv 37), some (iv i), some (iv (n + 1))]) dX0_foresee_123 rfl rfl (by decide) rfl ?_
    refine e_goto (pc' := 72) dX0_foresee_126 (by decide) ?_
    refine ih _ _ (by omega) (by omega) (by omega) (by omega) (fun w a c => by show τ3.1 45 w = _; rw [q45]; exact hO w a c) (fun w x a c e h => ?_) (fr_I hF3 (by decide))
    show (if 44 = 44 ∧ w * 13 + x = i * 13 + n then _ else τ3.1 44 (w * 13 + x)) = _
    by_cases hq : w = i ∧ x = n
    · rw [if_pos ⟨rfl, by rw [hq.1, hq.2]⟩, hq.1, hq.2]
      unfold wbS
      rw [if_pos (by omega)]
    · have hx12 : x ≤ 12 := by split at h <;> omega
      rw [if_neg (fun q => hq (by omega)), q44]
      refine hW w x a c e ?_
      by_cases hlt : w < i ∨ (w = i ∧ x < n)
      · rw [if_pos hlt]; rw [if_pos (by omega)] at h; exact h
      · rw [if_neg hlt]; rw [if_neg (by omega)] at h; exact h

set_option maxHeartbeats 4000000 in
set_option maxRecDepth 100000 in
theorem l_foreI_17_2 {X : AX} {d : Nat} {σ : SG} (ho : ScOK σ 17) (h9 : σ.1 17 9 = 2) (g : Int) (hg : 0 ≤ g ∧ g < 5) : ∀ (k : Nat) (i : Int) (τ : SG) (x5 : Option AV), 0 ≤ i → i ≤ σ.1 17 7 → σ.1 17 7 - i < k → (∀ w, 0 ≤ w → w < 3 → τ.1 45 w = gfS σ 17 w - σ.1 22 (g * 3 + w)) → (∀ w x, 0 ≤ w → w < 3 → 0 ≤ x → (if w < i ∨ (w = i ∧ x < 0) then x ≤ (σ.1 18 g) else (x = 0 ∧ ¬ w < σ.1 17 7)) → τ.1 44 (w * 13 + x) = wbS σ 17 g w x) → Fr [37, 38, 44, 45] σ τ → Ev X 0 0 (d + 3) mX0_foresee 60 [some (rv 43), some (rv 17), some (iv g), some (rv 37), some (iv i), x5] [] τ (QV (fun σ' => FsI σ σ' 17 g ∧ Fr [37, 38, 44, 45] σ σ')) := by
  intro k
  induction k with
  | zero => intros; omega
  | succ k ih =>
  intro i τ x5 hi0 hi1 hik hO hW hF
  have hoτ : ScOK τ 17 := ho.cg (sameScF_17 hF)
  have e1 : τ.1 17 = σ.1 17 := (hF 17 (by decide)).1
  have e5 : τ.1 22 = σ.1 22 := (hF 22 (by decide)).1
  have h7 := ho.2.1
  have h9r := ho.2.2.2.1
  have hco : 0 ≤ σ.1 18 g ∧ σ.1 18 g ≤ 12 := ho.2.2.2.2.2.2.2.2.2.2.1 g hg.1 hg.2
  refine e_iload (pc' := 62) dX0_foresee_60 rfl rfl ?_
  refine e_aload_n (pc' := 63) dX0_foresee_62 rfl rfl ?_
  refine e_getI (pc' := 66) (v := (σ.1 17 7)) dX0_foresee_63 rfl f_0_55 h_17 rfl ((congrFun (hF 17 (by decide)).1 7).trans rfl) ?_
  refine e_icmpI (pc' := 69) (t := 135) dX0_foresee_66 (by decide) rfl ⟨by omega, by omega⟩ ⟨by omega, by omega⟩ (fun (c2_1 : (σ.1 17 7) ≤ (i : Int)) => ?_) (fun (c2_1 : ¬ ((σ.1 17 7) ≤ (i : Int))) => ?_)
  · exact e_vret dX0_foresee_135 rfl ⟨rfl, Nat.le_refl _⟩ ⟨rfl, ⟨hO, fun w x a c e h => hW w x a c e (by
    by_cases hlt : w < i ∨ (w = i ∧ x < 0)
    · rw [if_pos hlt]; rw [if_pos (by omega)] at h; exact h
    · rw [if_neg hlt]; rw [if_neg (by omega)] at h; exact ⟨h, by omega⟩)⟩, hF⟩
  · refine e_iconst (pc' := 70) dX0_foresee_69 rfl ?_
    refine e_istore (pc' := 72) (L' := [some (rv 43), some (rv 17), some (iv g), some (rv 37), some (iv i), some (iv 0)]) dX0_foresee_70 rfl (by decide) rfl ?_
    exact l_foreN_17_2 ho h9 g hg ih i (by omega) (by omega) (by omega) ((σ.1 18 g) + 2).toNat 0 τ (by omega) (by omega) (by omega) (by omega) hO hW hF

set_option maxHeartbeats 4000000 in
set_option maxRecDepth 100000 in
theorem s_foresee_17 {X : AX} {d : Nat} {σ : SG} (ho : ScOK σ 17) (g : Int) (hg : 0 ≤ g ∧ g < 5) (hgf : ∀ w, 0 ≤ w → w < 3 → σ.1 40 w = gfS σ 17 w) : Ev X 0 0 (d + 3) mX0_foresee 0 [some (rv 43), some (rv 17), some (iv g), none, none, none] [] σ (QV (fun σ' => FsI σ σ' 17 g ∧ Fr [37, 38, 44, 45] σ σ')) := by
  refine e_iconst (pc' := 1) dX0_foresee_0 rfl ?_
  refine e_istore_n (pc' := 2) (L' := [some (rv 43), some (rv 17), some (iv g), some (iv 0), none, none]) dX0_foresee_1 rfl (by decide) rfl ?_
  refine e_iload_n (pc' := 3) dX0_foresee_2 rfl rfl ?_
  refine e_iconst (pc' := 4) dX0_foresee_3 rfl ?_
  refine e_icmpI (pc' := 7) (t := 49) dX0_foresee_4 (by decide) rfl ⟨by omega, by omega⟩ ⟨by omega, by omega⟩ (fun c2_1 => absurd (show 3 ≤ (0 : Int) from c2_1) (by decide)) (fun _ => ?_)
  refine e_aload_n (pc' := 8) dX0_foresee_7 rfl rfl ?_
  refine e_getR (pc' := 11) dX0_foresee_8 rfl f_0_15 h_43 rfl ?_
  refine e_iload_n (pc' := 12) dX0_foresee_11 rfl rfl ?_
  refine e_aload_n (pc' := 13) dX0_foresee_12 rfl rfl ?_
  refine e_getR (pc' := 16) dX0_foresee_13 rfl f_0_21 h_43 rfl ?_
  refine e_getR (pc' := 19) dX0_foresee_16 rfl f_0_62 h_39 rfl ?_
  refine e_iload_n (pc' := 20) dX0_foresee_19 rfl rfl ?_
  refine e_iald (pc' := 21) (v := (σ.1 40 0)) dX0_foresee_20 rfl h_40 (by decide) (by omega) (by omega) rfl ?_
  refine e_aload_n (pc' := 22) dX0_foresee_21 rfl rfl ?_
  refine e_getR (pc' := 25) dX0_foresee_22 rfl f_0_65 h_17 rfl ?_
  refine e_iload_n (pc' := 26) dX0_foresee_25 rfl rfl ?_
  refine e_iconst (pc' := 27) dX0_foresee_26 rfl ?_
  refine e_imul (pc' := 28) dX0_foresee_27 rfl ?_
  refine e_iload_n (pc' := 29) dX0_foresee_28 rfl rfl ?_
  refine e_iadd (pc' := 30) dX0_foresee_29 rfl ?_
  refine e_iald (pc' := 31) (v := (σ.1 22 ((g * 3) + 0))) dX0_foresee_30 rfl h_22 (by decide) (by omega) (by omega) rfl ?_
  refine e_isub (pc' := 32) dX0_foresee_31 rfl ?_
  refine e_iast (pc' := 33) dX0_foresee_32 rfl h_45 (by decide) (by omega) (by omega) ?_
  refine e_aload_n (pc' := 34) dX0_foresee_33 rfl rfl ?_
  refine e_getR (pc' := 37) dX0_foresee_34 rfl f_0_9 h_43 rfl ?_
  refine e_iload_n (pc' := 38) dX0_foresee_37 rfl rfl ?_
  refine e_bipush (pc' := 40) (z := 13) dX0_foresee_38 rfl (by decide) ?_
  refine e_imul (pc' := 41) dX0_foresee_40 rfl ?_
  refine e_iconst (pc' := 42) dX0_foresee_41 rfl ?_
  refine e_iast (pc' := 43) dX0_foresee_42 rfl h_44 (by decide) (by omega) (by omega) ?_
  refine e_iinc (pc' := 46) (L' := [some (rv 43), some (rv 17), some (iv g), some (iv 1), none, none]) dX0_foresee_43 rfl rfl (by decide) rfl ?_
  refine e_goto (pc' := 2) dX0_foresee_46 (by decide) ?_
  refine e_iload_n (pc' := 3) dX0_foresee_2 rfl rfl ?_
  refine e_iconst (pc' := 4) dX0_foresee_3 rfl ?_
  refine e_icmpI (pc' := 7) (t := 49) dX0_foresee_4 (by decide) rfl ⟨by omega, by omega⟩ ⟨by omega, by omega⟩ (fun c2_2 => absurd (show 3 ≤ (1 : Int) from c2_2) (by decide)) (fun _ => ?_)
  refine e_aload_n (pc' := 8) dX0_foresee_7 rfl rfl ?_
  refine e_getR (pc' := 11) dX0_foresee_8 rfl f_0_15 h_43 rfl ?_
  refine e_iload_n (pc' := 12) dX0_foresee_11 rfl rfl ?_
  refine e_aload_n (pc' := 13) dX0_foresee_12 rfl rfl ?_
  refine e_getR (pc' := 16) dX0_foresee_13 rfl f_0_21 h_43 rfl ?_
  refine e_getR (pc' := 19) dX0_foresee_16 rfl f_0_62 h_39 rfl ?_
  refine e_iload_n (pc' := 20) dX0_foresee_19 rfl rfl ?_
  refine e_iald (pc' := 21) (v := (σ.1 40 1)) dX0_foresee_20 rfl h_40 (by decide) (by omega) (by omega) rfl ?_
  refine e_aload_n (pc' := 22) dX0_foresee_21 rfl rfl ?_
  refine e_getR (pc' := 25) dX0_foresee_22 rfl f_0_65 h_17 rfl ?_
  refine e_iload_n (pc' := 26) dX0_foresee_25 rfl rfl ?_
  refine e_iconst (pc' := 27) dX0_foresee_26 rfl ?_
  refine e_imul (pc' := 28) dX0_foresee_27 rfl ?_
  refine e_iload_n (pc' := 29) dX0_foresee_28 rfl rfl ?_
  refine e_iadd (pc' := 30) dX0_foresee_29 rfl ?_
  refine e_iald (pc' := 31) (v := (σ.1 22 ((g * 3) + 1))) dX0_foresee_30 rfl h_22 (by decide) (by omega) (by omega) rfl ?_
  refine e_isub (pc' := 32) dX0_foresee_31 rfl ?_
  refine e_iast (pc' := 33) dX0_foresee_32 rfl h_45 (by decide) (by omega) (by omega) ?_
  refine e_aload_n (pc' := 34) dX0_foresee_33 rfl rfl ?_
  refine e_getR (pc' := 37) dX0_foresee_34 rfl f_0_9 h_43 rfl ?_
  refine e_iload_n (pc' := 38) dX0_foresee_37 rfl rfl ?_
  refine e_bipush (pc' := 40) (z := 13) dX0_foresee_38 rfl (by decide) ?_
  refine e_imul (pc' := 41) dX0_foresee_40 rfl ?_
  refine e_iconst (pc' := 42) dX0_foresee_41 rfl ?_
  refine e_iast (pc' := 43) dX0_foresee_42 rfl h_44 (by decide) (by omega) (by omega) ?_
  refine e_iinc (pc' := 46) (L' := [some (rv 43), some (rv 17), some (iv g), some (iv 2), none, none]) dX0_foresee_43 rfl rfl (by decide) rfl ?_
  refine e_goto (pc' := 2) dX0_foresee_46 (by decide) ?_
  refine e_iload_n (pc' := 3) dX0_foresee_2 rfl rfl ?_
  refine e_iconst (pc' := 4) dX0_foresee_3 rfl ?_
  refine e_icmpI (pc' := 7) (t := 49) dX0_foresee_4 (by decide) rfl ⟨by omega, by omega⟩ ⟨by omega, by omega⟩ (fun c2_3 => absurd (show 3 ≤ (2 : Int) from c2_3) (by decide)) (fun _ => ?_)
  refine e_aload_n (pc' := 8) dX0_foresee_7 rfl rfl ?_
  refine e_getR (pc' := 11) dX0_foresee_8 rfl f_0_15 h_43 rfl ?_
  refine e_iload_n (pc' := 12) dX0_foresee_11 rfl rfl ?_
  refine e_aload_n (pc' := 13) dX0_foresee_12 rfl rfl ?_
  refine e_getR (pc' := 16) dX0_foresee_13 rfl f_0_21 h_43 rfl ?_
  refine e_getR (pc' := 19) dX0_foresee_16 rfl f_0_62 h_39 rfl ?_
  refine e_iload_n (pc' := 20) dX0_foresee_19 rfl rfl ?_
  refine e_iald (pc' := 21) (v := (σ.1 40 2)) dX0_foresee_20 rfl h_40 (by decide) (by omega) (by omega) rfl ?_
  refine e_aload_n (pc' := 22) dX0_foresee_21 rfl rfl ?_
  refine e_getR (pc' := 25) dX0_foresee_22 rfl f_0_65 h_17 rfl ?_
  refine e_iload_n (pc' := 26) dX0_foresee_25 rfl rfl ?_
  refine e_iconst (pc' := 27) dX0_foresee_26 rfl ?_
  refine e_imul (pc' := 28) dX0_foresee_27 rfl ?_
  refine e_iload_n (pc' := 29) dX0_foresee_28 rfl rfl ?_
  refine e_iadd (pc' := 30) dX0_foresee_29 rfl ?_
  refine e_iald (pc' := 31) (v := (σ.1 22 ((g * 3) + 2))) dX0_foresee_30 rfl h_22 (by decide) (by omega) (by omega) rfl ?_
  refine e_isub (pc' := 32) dX0_foresee_31 rfl ?_
  refine e_iast (pc' := 33) dX0_foresee_32 rfl h_45 (by decide) (by omega) (by omega) ?_
  refine e_aload_n (pc' := 34) dX0_foresee_33 rfl rfl ?_
  refine e_getR (pc' := 37) dX0_foresee_34 rfl f_0_9 h_43 rfl ?_
  refine e_iload_n (pc' := 38) dX0_foresee_37 rfl rfl ?_
  refine e_bipush (pc' := 40) (z := 13) dX0_foresee_38 rfl (by decide) ?_
  refine e_imul (pc' := 41) dX0_foresee_40 rfl ?_
  refine e_iconst (pc' := 42) dX0_foresee_41 rfl ?_
  refine e_iast (pc' := 43) dX0_foresee_42 rfl h_44 (by decide) (by omega) (by omega) ?_
  refine e_iinc (pc' := 46) (L' := [some (rv 43), some (rv 17), some (iv g), some (iv 3), none, none]) dX0_foresee_43 rfl rfl (by decide) rfl ?_
  refine e_goto (pc' := 2) dX0_foresee_46 (by decide) ?_
  refine e_iload_n (pc' := 3) dX0_foresee_2 rfl rfl ?_
  refine e_iconst (pc' := 4) dX0_foresee_3 rfl ?_
  refine e_icmpI (pc' := 7) (t := 49) dX0_foresee_4 (by decide) rfl ⟨by omega, by omega⟩ ⟨by omega, by omega⟩ (fun _ => ?_) (fun c2_4 => absurd (show 3 ≤ (3 : Int) by decide) c2_4)
  refine e_aload_n (pc' := 50) dX0_foresee_49 rfl rfl ?_
  refine e_getR (pc' := 53) dX0_foresee_50 rfl f_0_21 h_43 rfl ?_
  refine e_getR (pc' := 56) dX0_foresee_53 rfl f_0_68 h_39 rfl ?_
  refine e_astore_n (pc' := 57) (L' := [some (rv 43), some (rv 17), some (iv g), some (rv 37), none, none]) dX0_foresee_56 rfl (by decide) rfl ?_
  refine e_iconst (pc' := 58) dX0_foresee_57 rfl ?_
  refine e_istore (pc' := 60) (L' := [some (rv 43), some (rv 17), some (iv g), some (rv 37), some (iv 0), none]) dX0_foresee_58 rfl (by decide) rfl ?_
  have h9 : σ.1 17 9 = 0 ∨ σ.1 17 9 = 1 ∨ σ.1 17 9 = 2 := by have := ho.2.2.2.1; omega
  have h7 := ho.2.1
  have hO : ∀ w, 0 ≤ w → w < 3 → ((upI (upI (upI (upI (upI (upI σ 45 0 ((σ.1 40 0) - (σ.1 22 ((g * 3) + 0)))) 44 (0 * 13) 0) 45 1 ((σ.1 40 1) - (σ.1 22 ((g * 3) + 1)))) 44 (1 * 13) 0) 45 2 ((σ.1 40 2) - (σ.1 22 ((g * 3) + 2)))) 44 (2 * 13) 0)).1 45 w = gfS σ 17 w - σ.1 22 (g * 3 + w) := three_of (by show σ.1 40 0 - _ = _; rw [hgf 0 (by decide) (by decide)]) (by show σ.1 40 1 - _ = _; rw [hgf 1 (by decide) (by decide)]) (by show σ.1 40 2 - _ = _; rw [hgf 2 (by decide) (by decide)])
  have hW : ∀ w x, 0 ≤ w → w < 3 → 0 ≤ x → (if w < 0 ∨ (w = 0 ∧ x < 0) then x ≤ (σ.1 18 g) else (x = 0 ∧ ¬ w < σ.1 17 7)) → ((upI (upI (upI (upI (upI (upI σ 45 0 ((σ.1 40 0) - (σ.1 22 ((g * 3) + 0)))) 44 (0 * 13) 0) 45 1 ((σ.1 40 1) - (σ.1 22 ((g * 3) + 1)))) 44 (1 * 13) 0) 45 2 ((σ.1 40 2) - (σ.1 22 ((g * 3) + 2)))) 44 (2 * 13) 0)).1 44 (w * 13 + x) = wbS σ 17 g w x := by
    intro w x a c e h
    rw [if_neg (by omega)] at h
    unfold wbS
    rw [if_neg h.2, h.1]
    have : w = 0 ∨ w = 1 ∨ w = 2 := by omega
    rcases this with rfl | rfl | rfl <;> rfl
  rcases h9 with h9 | h9 | h9
  · exact l_foreI_17_0 ho h9 g hg (σ.1 17 7 + 1).toNat 0 _ _ (by omega) (by omega) (by omega) hO hW (by repeat (first | exact Fr.rf | (refine fr_I ?_ (by decide)) | (refine fr_J ?_ (by decide)) | (refine fr_C ?_ (by decide))))
  · exact l_foreI_17_1 ho h9 g hg (σ.1 17 7 + 1).toNat 0 _ _ (by omega) (by omega) (by omega) hO hW (by repeat (first | exact Fr.rf | (refine fr_I ?_ (by decide)) | (refine fr_J ?_ (by decide)) | (refine fr_C ?_ (by decide))))
  · exact l_foreI_17_2 ho h9 g hg (σ.1 17 7 + 1).toNat 0 _ _ (by omega) (by omega) (by omega) hO hW (by repeat (first | exact Fr.rf | (refine fr_I ?_ (by decide)) | (refine fr_J ?_ (by decide)) | (refine fr_C ?_ (by decide))))
