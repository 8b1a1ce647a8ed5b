theorem SgI.fr {σ σ' : SG} {t : ST} {ks : List Nat} (h : SgI σ t) (hF : Fr ks σ σ') (hk : 37 ∉ ks) : SgI σ' t := by
  obtain ⟨h1, h2, h3, h4, h5⟩ := h
  have e := hF 37 hk
  exact ⟨by rw [e.1]; exact h1, by rw [e.1]; exact h2, by rw [e.1]; exact h3, by rw [e.1]; exact h4, by rw [e.2]; exact h5⟩

set_option maxHeartbeats 4000000 in
set_option maxRecDepth 100000 in
theorem s_doStep {X : AX} {d : Nat} {σ : SG} (t : ST) (st : List Int64) (hS : SgI σ t) (hT : StI σ st) (g : Int) (hg : rg g) (hr1 : rg t.1) (hr2 : rg t.2.1) (hr3 : rg t.2.2.1) (hr4 : rg t.2.2.2.1) : Ev X 0 0 (d + 1) mX9_doStep 0 [some (rv 37), some (iv g), none, none, none, none] [] σ (QV (fun σ' => StI σ' (dsS t g st) ∧ SgI σ' t ∧ Fr [37, 38] σ σ')) := by
  obtain ⟨hg1, hg2⟩ := id hg
  refine e_iload_n (pc' := 1) dX9_doStep_0 rfl rfl ?_
  by_cases k2_1 : g = 33
  · refine e_lookup (pc' := 136) (off := 135) dX9_doStep_1 (by first | assumption | exact ⟨by omega, by omega⟩) (by decide) (by rw [k2_1]; rfl) (by decide) ?_
    refine e_aload_n (pc' := 137) dX9_doStep_136 rfl rfl ?_
    refine e_aload_n (pc' := 138) dX9_doStep_137 rfl rfl ?_
    refine e_cv0j (pc' := 141) dX9_doStep_138 rfl k_9_83 h_37 rfl (Nat.le_of_ble_eq_true rfl) rfl rfl ⟨rfl, rfl⟩ ⟨Nat.zero_le _, Nat.zero_le _⟩ (s_pop t st hS hT) ?_
    rintro r1 τ1 ⟨rfl, hT1, hS1, hF1⟩
    refine e_lconst (pc' := 142) (z := 0) dX9_doStep_141 rfl rfl ?_
    refine e_lcmp (pc' := 143) dX9_doStep_142 rfl ?_
    refine e_ifJ (pc' := 146) (t := 150) dX9_doStep_143 (by decide) rfl (fun (c4_2 : ((popV st) : Int64) ≠ 0) => ?_) (fun (c4_2 : ¬ (((popV st) : Int64) ≠ 0)) => ?_)
    · refine e_lconst (pc' := 151) (z := 0) dX9_doStep_150 rfl rfl ?_
      refine e_cv1v (pc' := 154) dX9_doStep_151 rfl k_9_74 h_37 rfl (Nat.le_of_ble_eq_true rfl) rfl rfl ⟨rfl, rfl⟩ ⟨Nat.zero_le _, Nat.zero_le _⟩ (s_push t (popR st) hS1 hT1 0) ?_
      rintro τ2 ⟨hT2, hS2, hF2⟩
      refine e_goto (pc' := 191) dX9_doStep_154 (by decide) ?_
      exact e_vret dX9_doStep_191 rfl ⟨rfl, Nat.le_refl _⟩ ⟨rfl, by have e : dsS t g st = (pushS 0 (popR st)) := (by unfold dsS; simp_all); rw [e]; exact hT2, hS2, (hF1.tr hF2)⟩
    · refine e_lconst (pc' := 147) (z := 1) dX9_doStep_146 rfl rfl ?_
      refine e_goto (pc' := 151) dX9_doStep_147 (by decide) ?_
      refine e_cv1v (pc' := 154) dX9_doStep_151 rfl k_9_74 h_37 rfl (Nat.le_of_ble_eq_true rfl) rfl rfl ⟨rfl, rfl⟩ ⟨Nat.zero_le _, Nat.zero_le _⟩ (s_push t (popR st) hS1 hT1 1) ?_
      rintro τ2 ⟨hT2, hS2, hF2⟩
      refine e_goto (pc' := 191) dX9_doStep_154 (by decide) ?_
      exact e_vret dX9_doStep_191 rfl ⟨rfl, Nat.le_refl _⟩ ⟨rfl, by have e : dsS t g st = (pushS 1 (popR st)) := (by unfold dsS; simp_all); rw [e]; exact hT2, hS2, (hF1.tr hF2)⟩
  by_cases k2_2 : g = 108
  · refine e_lookup (pc' := 104) (off := 103) dX9_doStep_1 (by first | assumption | exact ⟨by omega, by omega⟩) (by decide) (by rw [k2_2]; rfl) (by decide) ?_
    refine e_aload_n (pc' := 105) dX9_doStep_104 rfl rfl ?_
    refine e_aload_n (pc' := 106) dX9_doStep_105 rfl rfl ?_
    refine e_getI (pc' := 109) (v := t.2.2.2.1) dX9_doStep_106 rfl f_9_25 h_37 rfl hS.2.2.2.1 ?_
    refine e_i2l (pc' := 110) dX9_doStep_109 rfl (by first | assumption | exact ⟨by omega, by omega⟩) ?_
    refine e_cv1v (pc' := 113) dX9_doStep_110 rfl k_9_74 h_37 rfl (Nat.le_of_ble_eq_true rfl) rfl rfl ⟨rfl, rfl⟩ ⟨Nat.zero_le _, Nat.zero_le _⟩ (s_push t st hS hT (Int64.ofInt t.2.2.2.1)) ?_
    rintro τ1 ⟨hT1, hS1, hF1⟩
    refine e_goto (pc' := 191) dX9_doStep_113 (by decide) ?_
    exact e_vret dX9_doStep_191 rfl ⟨rfl, Nat.le_refl _⟩ ⟨rfl, by have e : dsS t g st = (pushS (Int64.ofInt t.2.2.2.1) st) := (by unfold dsS; simp_all); rw [e]; exact hT1, hS1, hF1⟩
  by_cases k2_3 : g = 109
  · refine e_lookup (pc' := 92) (off := 91) dX9_doStep_1 (by first | assumption | exact ⟨by omega, by omega⟩) (by decide) (by rw [k2_3]; rfl) (by decide) ?_
    refine e_aload_n (pc' := 93) dX9_doStep_92 rfl rfl ?_
    refine e_aload_n (pc' := 94) dX9_doStep_93 rfl rfl ?_
    refine e_getI (pc' := 97) (v := t.2.2.1) dX9_doStep_94 rfl f_9_22 h_37 rfl hS.2.2.1 ?_
    refine e_i2l (pc' := 98) dX9_doStep_97 rfl (by first | assumption | exact ⟨by omega, by omega⟩) ?_
    refine e_cv1v (pc' := 101) dX9_doStep_98 rfl k_9_74 h_37 rfl (Nat.le_of_ble_eq_true rfl) rfl rfl ⟨rfl, rfl⟩ ⟨Nat.zero_le _, Nat.zero_le _⟩ (s_push t st hS hT (Int64.ofInt t.2.2.1)) ?_
    rintro τ1 ⟨hT1, hS1, hF1⟩
    refine e_goto (pc' := 191) dX9_doStep_101 (by decide) ?_
    exact e_vret dX9_doStep_191 rfl ⟨rfl, Nat.le_refl _⟩ ⟨rfl, by have e : dsS t g st = (pushS (Int64.ofInt t.2.2.1) st) := (by unfold dsS; simp_all); rw [e]; exact hT1, hS1, hF1⟩
  by_cases k2_4 : g = 110
  · refine e_lookup (pc' := 80) (off := 79) dX9_doStep_1 (by first | assumption | exact ⟨by omega, by omega⟩) (by decide) (by rw [k2_4]; rfl) (by decide) ?_
    refine e_aload_n (pc' := 81) dX9_doStep_80 rfl rfl ?_
    refine e_aload_n (pc' := 82) dX9_doStep_81 rfl rfl ?_
    refine e_getI (pc' := 85) (v := t.2.1) dX9_doStep_82 rfl f_9_19 h_37 rfl hS.2.1 ?_
    refine e_i2l (pc' := 86) dX9_doStep_85 rfl (by first | assumption | exact ⟨by omega, by omega⟩) ?_
    refine e_cv1v (pc' := 89) dX9_doStep_86 rfl k_9_74 h_37 rfl (Nat.le_of_ble_eq_true rfl) rfl rfl ⟨rfl, rfl⟩ ⟨Nat.zero_le _, Nat.zero_le _⟩ (s_push t st hS hT (Int64.ofInt t.2.1)) ?_
    rintro τ1 ⟨hT1, hS1, hF1⟩
    refine e_goto (pc' := 191) dX9_doStep_89 (by decide) ?_
    exact e_vret dX9_doStep_191 rfl ⟨rfl, Nat.le_refl _⟩ ⟨rfl, by have e : dsS t g st = (pushS (Int64.ofInt t.2.1) st) := (by unfold dsS; simp_all); rw [e]; exact hT1, hS1, hF1⟩
  by_cases k2_5 : g = 114
  · refine e_lookup (pc' := 116) (off := 115) dX9_doStep_1 (by first | assumption | exact ⟨by omega, by omega⟩) (by decide) (by rw [k2_5]; rfl) (by decide) ?_
    refine e_aload_n (pc' := 117) dX9_doStep_116 rfl rfl ?_
    refine e_aload_n (pc' := 118) dX9_doStep_117 rfl rfl ?_
    refine e_getJ (pc' := 121) (v := t.2.2.2.2) dX9_doStep_118 rfl f_9_28 h_37 rfl hS.2.2.2.2 ?_
    refine e_aload_n (pc' := 122) dX9_doStep_121 rfl rfl ?_
    refine e_getJ (pc' := 125) (v := t.2.2.2.2) dX9_doStep_122 rfl f_9_28 h_37 rfl hS.2.2.2.2 ?_
    refine e_lmul (pc' := 126) dX9_doStep_125 rfl ?_
    refine e_ldc2 (pc' := 129) dX9_doStep_126 rfl c_9_92 ?_
    refine e_ldiv (pc' := 130) dX9_doStep_129 rfl (by decide) ?_
    refine e_cv1v (pc' := 133) dX9_doStep_130 rfl k_9_74 h_37 rfl (Nat.le_of_ble_eq_true rfl) rfl rfl ⟨rfl, rfl⟩ ⟨Nat.zero_le _, Nat.zero_le _⟩ (s_push t st hS hT ((t.2.2.2.2 * t.2.2.2.2) / 1000000000000)) ?_
    rintro τ1 ⟨hT1, hS1, hF1⟩
    refine e_goto (pc' := 191) dX9_doStep_133 (by decide) ?_
    exact e_vret dX9_doStep_191 rfl ⟨rfl, Nat.le_refl _⟩ ⟨rfl, by have e : dsS t g st = (pushS ((t.2.2.2.2 * t.2.2.2.2) / 1000000000000) st) := (by unfold dsS; simp_all); rw [e]; exact hT1, hS1, hF1⟩
  by_cases k2_6 : g = 115
  · refine e_lookup (pc' := 68) (off := 67) dX9_doStep_1 (by first | assumption | exact ⟨by omega, by omega⟩) (by decide) (by rw [k2_6]; rfl) (by decide) ?_
    refine e_aload_n (pc' := 69) dX9_doStep_68 rfl rfl ?_
    refine e_aload_n (pc' := 70) dX9_doStep_69 rfl rfl ?_
    refine e_getI (pc' := 73) (v := t.1) dX9_doStep_70 rfl f_9_15 h_37 rfl hS.1 ?_
    refine e_i2l (pc' := 74) dX9_doStep_73 rfl (by first | assumption | exact ⟨by omega, by omega⟩) ?_
    refine e_cv1v (pc' := 77) dX9_doStep_74 rfl k_9_74 h_37 rfl (Nat.le_of_ble_eq_true rfl) rfl rfl ⟨rfl, rfl⟩ ⟨Nat.zero_le _, Nat.zero_le _⟩ (s_push t st hS hT (Int64.ofInt t.1)) ?_
    rintro τ1 ⟨hT1, hS1, hF1⟩
    refine e_goto (pc' := 191) dX9_doStep_77 (by decide) ?_
    exact e_vret dX9_doStep_191 rfl ⟨rfl, Nat.le_refl _⟩ ⟨rfl, by have e : dsS t g st = (pushS (Int64.ofInt t.1) st) := (by unfold dsS; simp_all); rw [e]; exact hT1, hS1, hF1⟩
  by_cases k2_7 : g = 126
  · refine e_lookup (pc' := 157) (off := 156) dX9_doStep_1 (by first | assumption | exact ⟨by omega, by omega⟩) (by decide) (by rw [k2_7]; rfl) (by decide) ?_
    refine e_aload_n (pc' := 158) dX9_doStep_157 rfl rfl ?_
    refine e_aload_n (pc' := 159) dX9_doStep_158 rfl rfl ?_
    refine e_cv0j (pc' := 162) dX9_doStep_159 rfl k_9_83 h_37 rfl (Nat.le_of_ble_eq_true rfl) rfl rfl ⟨rfl, rfl⟩ ⟨Nat.zero_le _, Nat.zero_le _⟩ (s_pop t st hS hT) ?_
    rintro r1 τ1 ⟨rfl, hT1, hS1, hF1⟩
    refine e_lneg (pc' := 163) dX9_doStep_162 rfl ?_
    refine e_cv1v (pc' := 166) dX9_doStep_163 rfl k_9_74 h_37 rfl (Nat.le_of_ble_eq_true rfl) rfl rfl ⟨rfl, rfl⟩ ⟨Nat.zero_le _, Nat.zero_le _⟩ (s_push t (popR st) hS1 hT1 (-(popV st))) ?_
    rintro τ2 ⟨hT2, hS2, hF2⟩
    refine e_goto (pc' := 191) dX9_doStep_166 (by decide) ?_
    exact e_vret dX9_doStep_191 rfl ⟨rfl, Nat.le_refl _⟩ ⟨rfl, by have e : dsS t g st = (pushS (-(popV st)) (popR st)) := (by unfold dsS; simp_all); rw [e]; exact hT2, hS2, (hF1.tr hF2)⟩
  refine e_lookup (pc' := 169) (off := 168) dX9_doStep_1 (by first | assumption | exact ⟨by omega, by omega⟩) (by decide) (lk_none _ _ _ (by simp only [List.mem_cons, List.not_mem_nil, or_false, forall_eq_or_imp, forall_eq, ne_eq]; omega)) (by decide) ?_
  refine e_aload_n (pc' := 170) dX9_doStep_169 rfl rfl ?_
  refine e_cv0j (pc' := 173) dX9_doStep_170 rfl k_9_83 h_37 rfl (Nat.le_of_ble_eq_true rfl) rfl rfl ⟨rfl, rfl⟩ ⟨Nat.zero_le _, Nat.zero_le _⟩ (s_pop t st hS hT) ?_
  rintro r1 τ1 ⟨rfl, hT1, hS1, hF1⟩
  refine e_lstore_n (pc' := 174) (L' := [some (rv 37), some (iv g), some (jv (popV st)), none, none, none]) dX9_doStep_173 rfl (by decide) rfl ?_
  refine e_aload_n (pc' := 175) dX9_doStep_174 rfl rfl ?_
  refine e_cv0j (pc' := 178) dX9_doStep_175 rfl k_9_83 h_37 rfl (Nat.le_of_ble_eq_true rfl) rfl rfl ⟨rfl, rfl⟩ ⟨Nat.zero_le _, Nat.zero_le _⟩ (s_pop t (popR st) hS1 hT1) ?_
  rintro r2 τ2 ⟨rfl, hT2, hS2, hF2⟩
  refine e_lstore (pc' := 180) (L' := [some (rv 37), some (iv g), some (jv (popV st)), none, some (jv (popV (popR st))), none]) dX9_doStep_178 rfl (by decide) rfl ?_
  refine e_aload_n (pc' := 181) dX9_doStep_180 rfl rfl ?_
  refine e_iload_n (pc' := 182) dX9_doStep_181 rfl rfl ?_
  refine e_lload (pc' := 184) dX9_doStep_182 rfl rfl ?_
  refine e_lload_n (pc' := 185) dX9_doStep_184 rfl rfl ?_
  refine e_cs3j (pc' := 188) dX9_doStep_185 rfl pn_9_94 k_9_94 (Nat.le_of_ble_eq_true rfl) rfl rfl ⟨rfl, rfl⟩ ⟨Nat.zero_le _, Nat.zero_le _⟩ (s_joined g (popV (popR st)) (popV st) ⟨by omega, by omega⟩) ?_
  intro r σ' hr; rw [hr.1, hr.2]; clear hr
  refine e_cv1v (pc' := 191) dX9_doStep_188 rfl k_9_74 h_37 rfl (Nat.le_of_ble_eq_true rfl) rfl rfl ⟨rfl, rfl⟩ ⟨Nat.zero_le _, Nat.zero_le _⟩ (s_push t (popR (popR st)) hS2 hT2 (jnS g (popV (popR st)) (popV st))) ?_
  rintro τ3 ⟨hT3, hS3, hF3⟩
  exact e_vret dX9_doStep_191 rfl ⟨rfl, Nat.le_refl _⟩ ⟨rfl, by have e : dsS t g st = (pushS (jnS g (popV (popR st)) (popV st)) (popR (popR st))) := (by unfold dsS; simp_all); rw [e]; exact hT3, hS3, ((hF1.tr hF2).tr hF3)⟩

set_option maxHeartbeats 4000000 in
set_option maxRecDepth 100000 in
theorem l_seeAllBut_1 {X : AX} {d : Nat} {σ : SG} (hg : 0 ≤ σ.1 1 6 ∧ σ.1 1 6 ≤ 5) (hgf : ∀ j, 0 ≤ j → j < 15 → 0 ≤ σ.1 6 j ∧ σ.1 6 j ≤ 12) (w a : Int) (hw : 0 ≤ w ∧ w < 3) (ha : rg a) : ∀ (k : Nat) (i : Int) (τ : SG), 0 ≤ i → i ≤ σ.1 1 6 → σ.1 1 6 - i < k → SgI τ (saI (σ.1 6) w a i) → Fr [37] σ τ → Ev X 0 0 (d + 2) mX9_seeAllBut 7 [some (rv 37), some (rv 1), some (iv w), some (iv a), some (iv i)] [] τ (QV (fun σ' => SgI σ' (saI (σ.1 6) w a (σ.1 1 6)) ∧ Fr [37] σ σ')) := by
  intro k
  induction k with
  | zero => intros; omega
  | succ k ih =>
  intro i τ hi0 hi1 hik hS hF
  obtain ⟨ha1, ha2⟩ := id ha
  refine e_iload (pc' := 9) dX9_seeAllBut_7 rfl rfl ?_
  refine e_aload_n (pc' := 10) dX9_seeAllBut_9 rfl rfl ?_
  refine e_getI (pc' := 13) (v := (σ.1 1 6)) dX9_seeAllBut_10 rfl f_9_48 h_1 rfl ((congrFun (hF 1 (by decide)).1 6).trans rfl) ?_
  refine e_icmpI (pc' := 16) (t := 43) dX9_seeAllBut_13 (by decide) rfl ⟨by omega, by omega⟩ ⟨by omega, by omega⟩ (fun (c2_1 : (σ.1 1 6) ≤ (i : Int)) => ?_) (fun (c2_1 : ¬ ((σ.1 1 6) ≤ (i : Int))) => ?_)
  · exact e_vret dX9_seeAllBut_43 rfl ⟨rfl, Nat.le_refl _⟩ ⟨rfl, by rw [show σ.1 1 6 = i by omega]; exact hS, hF⟩
  · refine e_iload (pc' := 18) dX9_seeAllBut_16 rfl rfl ?_
    refine e_iload_n (pc' := 19) dX9_seeAllBut_18 rfl rfl ?_
    refine e_icmpI (pc' := 22) (t := 37) dX9_seeAllBut_19 (by decide) rfl ⟨by omega, by omega⟩ ⟨by omega, by omega⟩ (fun (c4_2 : (i : Int) = a) => ?_) (fun (c4_2 : ¬ ((i : Int) = a)) => ?_)
    · refine e_iinc (pc' := 40) (L' := [some (rv 37), some (rv 1), some (iv w), some (iv a), some (iv (i + 1))]) dX9_seeAllBut_37 rfl rfl (by decide) rfl ?_
      refine e_goto (pc' := 7) dX9_seeAllBut_40 (by decide) ?_
      exact ih _ _ (by omega) (by omega) (by omega) (by rw [saI_s _ _ _ (by omega), if_pos (by omega)]; exact hS) hF
    · refine e_aload_n (pc' := 23) dX9_seeAllBut_22 rfl rfl ?_
      refine e_aload_n (pc' := 24) dX9_seeAllBut_23 rfl rfl ?_
      refine e_getR (pc' := 27) dX9_seeAllBut_24 rfl f_9_53 h_1 rfl ?_
      refine e_iload (pc' := 29) dX9_seeAllBut_27 rfl rfl ?_
      refine e_iconst (pc' := 30) dX9_seeAllBut_29 rfl ?_
      refine e_imul (pc' := 31) dX9_seeAllBut_30 rfl ?_
      refine e_iload_n (pc' := 32) dX9_seeAllBut_31 rfl rfl ?_
      refine e_iadd (pc' := 33) dX9_seeAllBut_32 rfl ?_
      refine e_iald (pc' := 34) (v := (σ.1 6 ((i * 3) + w))) dX9_seeAllBut_33 rfl h_6 (by decide) (by omega) (by omega) ((congrFun (hF 6 (by decide)).1 ((i * 3) + w)).trans rfl) ?_
      refine e_cv1v (pc' := 37) dX9_seeAllBut_34 rfl k_9_56 h_37 rfl (Nat.le_of_ble_eq_true rfl) rfl rfl ⟨rfl, rfl⟩ ⟨Nat.zero_le _, Nat.zero_le _⟩ (s_see (saI (σ.1 6) w a i) (σ.1 6 ((i * 3) + w)) hS (saS_ok _ _ _ _) ⟨by have := hgf (i * 3 + w) (by omega) (by omega); omega, by have := hgf (i * 3 + w) (by omega) (by omega); omega⟩) ?_
      rintro τ2 ⟨hS2, hF2⟩
      refine e_iinc (pc' := 40) (L' := [some (rv 37), some (rv 1), some (iv w), some (iv a), some (iv (i + 1))]) dX9_seeAllBut_37 rfl rfl (by decide) rfl ?_
      refine e_goto (pc' := 7) dX9_seeAllBut_40 (by decide) ?_
      exact ih _ _ (by omega) (by omega) (by omega) (by rw [saI_s _ _ _ (by omega), if_neg (by omega)]; exact hS2) (hF.tr hF2)

set_option maxHeartbeats 4000000 in
set_option maxRecDepth 100000 in
theorem s_seeAllBut_1 {X : AX} {d : Nat} {σ : SG} (hg : 0 ≤ σ.1 1 6 ∧ σ.1 1 6 ≤ 5) (hgf : ∀ j, 0 ≤ j → j < 15 → 0 ≤ σ.1 6 j ∧ σ.1 6 j ≤ 12) (w a : Int) (hw : 0 ≤ w ∧ w < 3) (ha : rg a) : Ev X 0 0 (d + 2) mX9_seeAllBut 0 [some (rv 37), some (rv 1), some (iv w), some (iv a), none] [] σ (QV (fun σ' => SgI σ' (saI (σ.1 6) w a (σ.1 1 6)) ∧ Fr [37] σ σ')) := by
  refine e_aload_n (pc' := 1) dX9_seeAllBut_0 rfl rfl ?_
  refine e_cv0v (pc' := 4) dX9_seeAllBut_1 rfl k_9_45 h_37 rfl (Nat.le_of_ble_eq_true rfl) rfl rfl ⟨rfl, rfl⟩ ⟨Nat.zero_le _, Nat.zero_le _⟩ s_clear ?_
  rintro τ ⟨hS, hF⟩
  refine e_iconst (pc' := 5) dX9_seeAllBut_4 rfl ?_
  refine e_istore (pc' := 7) (L' := [some (rv 37), some (rv 1), some (iv w), some (iv a), some (iv 0)]) dX9_seeAllBut_5 rfl (by decide) rfl ?_
  exact l_seeAllBut_1 hg hgf w a hw ha (σ.1 1 6 + 1).toNat _ _ (by omega) (by omega) (by omega) hS hF

set_option maxHeartbeats 4000000 in
set_option maxRecDepth 100000 in
theorem l_seeAllBut_17 {X : AX} {d : Nat} {σ : SG} (hg : 0 ≤ σ.1 17 6 ∧ σ.1 17 6 ≤ 5) (hgf : ∀ j, 0 ≤ j → j < 15 → 0 ≤ σ.1 22 j ∧ σ.1 22 j ≤ 12) (w a : Int) (hw : 0 ≤ w ∧ w < 3) (ha : rg a) : ∀ (k : Nat) (i : Int) (τ : SG), 0 ≤ i → i ≤ σ.1 17 6 → σ.1 17 6 - i < k → SgI τ (saI (σ.1 22) w a i) → Fr [37] σ τ → Ev X 0 0 (d + 2) mX9_seeAllBut 7 [some (rv 37), some (rv 17), some (iv w), some (iv a), some (iv i)] [] τ (QV (fun σ' => SgI σ' (saI (σ.1 22) w a (σ.1 17 6)) ∧ Fr [37] σ σ')) := by
  intro k
  induction k with
  | zero => intros; omega
  | succ k ih =>
  intro i τ hi0 hi1 hik hS hF
  obtain ⟨ha1, ha2⟩ := id ha
  refine e_iload (pc' := 9) dX9_seeAllBut_7 rfl rfl ?_
  refine e_aload_n (pc' := 10) dX9_seeAllBut_9 rfl rfl ?_
  refine e_getI (pc' := 13) (v := (σ.1 17 6)) dX9_seeAllBut_10 rfl f_9_48 h_17 rfl ((congrFun (hF 17 (by decide)).1 6).trans rfl) ?_
  refine e_icmpI (pc' := 16) (t := 43) dX9_seeAllBut_13 (by decide) rfl ⟨by omega, by omega⟩ ⟨by omega, by omega⟩ (fun (c2_1 : (σ.1 17 6) ≤ (i : Int)) => ?_) (fun (c2_1 : ¬ ((σ.1 17 6) ≤ (i : Int))) => ?_)
  · exact e_vret dX9_seeAllBut_43 rfl ⟨rfl, Nat.le_refl _⟩ ⟨rfl, by rw [show σ.1 17 6 = i by omega]; exact hS, hF⟩
  · refine e_iload (pc' := 18) dX9_seeAllBut_16 rfl rfl ?_
    refine e_iload_n (pc' := 19) dX9_seeAllBut_18 rfl rfl ?_
    refine e_icmpI (pc' := 22) (t := 37) dX9_seeAllBut_19 (by decide) rfl ⟨by omega, by omega⟩ ⟨by omega, by omega⟩ (fun (c4_2 : (i : Int) = a) => ?_) (fun (c4_2 : ¬ ((i : Int) = a)) => ?_)
    · refine e_iinc (pc' := 40) (L' := [some (rv 37), some (rv 17), some (iv w), some (iv a), some (iv (i + 1))]) dX9_seeAllBut_37 rfl rfl (by decide) rfl ?_
      refine e_goto (pc' := 7) dX9_seeAllBut_40 (by decide) ?_
      exact ih _ _ (by omega) (by omega) (by omega) (by rw [saI_s _ _ _ (by omega), if_pos (by omega)]; exact hS) hF
    · refine e_aload_n (pc' := 23) dX9_seeAllBut_22 rfl rfl ?_
      refine e_aload_n (pc' := 24) dX9_seeAllBut_23 rfl rfl ?_
      refine e_getR (pc' := 27) dX9_seeAllBut_24 rfl f_9_53 h_17 rfl ?_
      refine e_iload (pc' := 29) dX9_seeAllBut_27 rfl rfl ?_
      refine e_iconst (pc' := 30) dX9_seeAllBut_29 rfl ?_
      refine e_imul (pc' := 31) dX9_seeAllBut_30 rfl ?_
      refine e_iload_n (pc' := 32) dX9_seeAllBut_31 rfl rfl ?_
      refine e_iadd (pc' := 33) dX9_seeAllBut_32 rfl ?_
      refine e_iald (pc' := 34) (v := (σ.1 22 ((i * 3) + w))) dX9_seeAllBut_33 rfl h_22 (by decide) (by omega) (by omega) ((congrFun (hF 22 (by decide)).1 ((i * 3) + w)).trans rfl) ?_
      refine e_cv1v (pc' := 37) dX9_seeAllBut_34 rfl k_9_56 h_37 rfl (Nat.le_of_ble_eq_true rfl) rfl rfl ⟨rfl, rfl⟩ ⟨Nat.zero_le _, Nat.zero_le _⟩ (s_see (saI (σ.1 22) w a i) (σ.1 22 ((i * 3) + w)) hS (saS_ok _ _ _ _) ⟨by have := hgf (i * 3 + w) (by omega) (by omega); omega, by have := hgf (i * 3 + w) (by omega) (by omega); omega⟩) ?_
      rintro τ2 ⟨hS2, hF2⟩
      refine e_iinc (pc' := 40) (L' := [some (rv 37), some (rv 17), some (iv w), some (iv a), some (iv (i + 1))]) dX9_seeAllBut_37 rfl rfl (by decide) rfl ?_
      refine e_goto (pc' := 7) dX9_seeAllBut_40 (by decide) ?_
      exact ih _ _ (by omega) (by omega) (by omega) (by rw [saI_s _ _ _ (by omega), if_neg (by omega)]; exact hS2) (hF.tr hF2)

set_option maxHeartbeats 4000000 in
set_option maxRecDepth 100000 in
theorem s_seeAllBut_17 {X : AX} {d : Nat} {σ : SG} (hg : 0 ≤ σ.1 17 6 ∧ σ.1 17 6 ≤ 5) (hgf : ∀ j, 0 ≤ j → j < 15 → 0 ≤ σ.1 22 j ∧ σ.1 22 j ≤ 12) (w a : Int) (hw : 0 ≤ w ∧ w < 3) (ha : rg a) : Ev X 0 0 (d + 2) mX9_seeAllBut 0 [some (rv 37), some (rv 17), some (iv w), some (iv a), none] [] σ (QV (fun σ' => SgI σ' (saI (σ.1 22) w a (σ.1 17 6)) ∧ Fr [37] σ σ')) := by
  refine e_aload_n (pc' := 1) dX9_seeAllBut_0 rfl rfl ?_
  refine e_cv0v (pc' := 4) dX9_seeAllBut_1 rfl k_9_45 h_37 rfl (Nat.le_of_ble_eq_true rfl) rfl rfl ⟨rfl, rfl⟩ ⟨Nat.zero_le _, Nat.zero_le _⟩ s_clear ?_
  rintro τ ⟨hS, hF⟩
  refine e_iconst (pc' := 5) dX9_seeAllBut_4 rfl ?_
  refine e_istore (pc' := 7) (L' := [some (rv 37), some (rv 17), some (iv w), some (iv a), some (iv 0)]) dX9_seeAllBut_5 rfl (by decide) rfl ?_
  exact l_seeAllBut_17 hg hgf w a hw ha (σ.1 17 6 + 1).toNat _ _ (by omega) (by omega) (by omega) hS hF
