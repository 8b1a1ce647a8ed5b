theorem FsI_cg {σ υ τ : SG} {s : Nat} {g : Int} (ho : ScOK σ s) (e : SameSc σ υ s) (h : FsI υ τ s g) : FsI σ τ s g := by
  obtain ⟨h1, h2⟩ := h
  have es := e s (by omega) (by omega)
  have e1 := e (s + 1) (by omega) (by omega)
  have e5 := e (s + 5) (by omega) (by omega)
  refine ⟨fun w a b => ?_, fun w x a b c d => ?_⟩
  · rw [h1 w a b, gfS_cg e, e5]
  · have := h2 w x a b c (by rw [es, e1]; exact d)
    rw [this]
    unfold wbS
    rw [es, e5, tlR_cg ho e]
theorem LgI_q {σ τ : SG} {s : Nat} (ho : ScOK σ s) (h : LgI σ τ s) (hgf : ∀ w, 0 ≤ w → w < 3 → 0 ≤ gfS σ s w ∧ gfS σ s w ≤ 1000) : ∀ w, 0 ≤ w → w < 3 → 0 ≤ τ.1 40 w + τ.1 42 w ∧ τ.1 40 w + τ.1 42 w ≤ 2000 := by
  intro w a b
  have h1 := h.1 w a b
  have h2 := adS_rg (md := σ.1 s 11) (p := σ.1 s 10) (u := wdS σ s) ho.2.2.2.2.1 (fun w _ _ => wdS_rg σ s w) w a b
  have h3 := hgf w a b
  rw [h1.1, h1.2.2]
  omega
theorem gfS_rg {σ : SG} {s : Nat} (ho : ScOK σ s) : ∀ w, 0 ≤ w → w < 3 → 0 ≤ gfS σ s w ∧ gfS σ s w ≤ 1000 := by
  intro w a b
  unfold gfS
  split
  · have key : ∀ n : Nat, n ≤ 5 → 0 ≤ sm (fun g => σ.1 (s + 5) (g * 3 + w)) n ∧ sm (fun g => σ.1 (s + 5) (g * 3 + w)) n ≤ 12 * n := by
      intro n
      induction n with
      | zero => intro _; exact ⟨Int.le_refl _, Int.le_refl _⟩
      | succ n ih =>
        intro hn
        have h1 := ih (by omega)
        have h2 := ho.2.2.2.2.2.2.1 ((n : Int) * 3 + w) (by omega) (by omega)
        show 0 ≤ sm _ n + σ.1 (s + 5) ((n : Int) * 3 + w) ∧ sm _ n + σ.1 (s + 5) ((n : Int) * 3 + w) ≤ 12 * ((n + 1 : Nat) : Int)
        constructor <;> omega
    have := key (σ.1 s 6).toNat (by have := ho.1; omega)
    unfold smI
    have := ho.1
    omega
  · decide
theorem hv_bf {σ τ : SG} {s : Nat} {g : Int} (e : SameSc σ τ s) (h : LgI σ τ s) : hvO τ s (fun w => τ.1 40 w + τ.1 42 w) (ktO τ s g) g = bfS σ s g := by
  unfold bfS
  rw [show ktO τ s g = ktO σ s g by unfold ktO; rw [e (s + 1) (by omega) (by omega), e (s + 5) (by omega) (by omega)]]
  exact hvO_cg e (by show τ.1 40 0 + τ.1 42 0 = _; rw [(h.1 0 (by decide) (by decide)).1, (h.1 0 (by decide) (by decide)).2.2]) (by show τ.1 40 1 + τ.1 42 1 = _; rw [(h.1 1 (by decide) (by decide)).1, (h.1 1 (by decide) (by decide)).2.2]) (by show τ.1 40 2 + τ.1 42 2 = _; rw [(h.1 2 (by decide) (by decide)).1, (h.1 2 (by decide) (by decide)).2.2]) _ _

set_option maxHeartbeats 4000000 in
set_option maxRecDepth 100000 in
theorem s_choose_1 {X : AX} {d : Nat} {σ : SG} (ho : ScOK σ 1) (g : Int) (hg : 0 ≤ g ∧ g < 5) (hot : ∀ w, 0 ≤ w → w < 3 → 0 ≤ gfS σ 1 w - σ.1 6 (g * 3 + w) ∧ gfS σ 1 w - σ.1 6 (g * 3 + w) ≤ 100) (hVr : ∀ x y z, 0 ≤ x → 0 ≤ y → 0 ≤ z → x + y + z ≤ (σ.1 2 g) → rg (bvS σ 1 g x y z)) : Ev X 0 0 (d + 4) mX0_choose 0 [some (rv 43), some (rv 1), some (iv g), none, none, none, none, none, none, none] [] σ (QV (fun σ' => brOf σ' = bsS (bvS σ 1 g) (σ.1 1 7) (σ.1 2 g) (-1, σ.1 46 0, σ.1 46 1, σ.1 46 2) ∧ σ'.1 43 5 = bfS σ 1 g ∧ Fr [37, 38, 39, 40, 41, 42, 43, 44, 45, 46] σ σ')) := by
  have h7 := ho.2.1
  refine e_aload_n (pc' := 1) dX0_choose_0 rfl rfl ?_
  refine e_getR (pc' := 4) dX0_choose_1 rfl f_0_21 h_43 rfl ?_
  refine e_aload_n (pc' := 5) dX0_choose_4 rfl rfl ?_
  refine e_cv1v (pc' := 8) dX0_choose_5 rfl k_0_25 h_39 rfl (Nat.le_of_ble_eq_true rfl) rfl rfl ⟨rfl, rfl⟩ ⟨Nat.zero_le _, Nat.zero_le _⟩ (s_fill_1 ho) ?_
  rintro τ1 ⟨hL1, hG1⟩
  have hF1 : Fr [37, 38, 39, 40, 41, 42, 43, 44, 45, 46] σ τ1 := hG1.mono (by decide)
  have ho1 : ScOK τ1 1 := ho.cg (sameScA_1 hF1)
  refine e_aload_n (pc' := 9) dX0_choose_8 rfl rfl ?_
  refine e_aload_n (pc' := 10) dX0_choose_9 rfl rfl ?_
  refine e_getR (pc' := 13) dX0_choose_10 rfl f_0_21 h_43 rfl ?_
  refine e_aload_n (pc' := 14) dX0_choose_13 rfl rfl ?_
  refine e_iload_n (pc' := 15) dX0_choose_14 rfl rfl ?_
  refine e_aload_n (pc' := 16) dX0_choose_15 rfl rfl ?_
  refine e_iload_n (pc' := 17) dX0_choose_16 rfl rfl ?_
  refine e_cv1i (pc' := 20) dX0_choose_17 rfl k_0_31 h_1 rfl (Nat.le_of_ble_eq_true rfl) rfl rfl ⟨rfl, rfl⟩ ⟨Nat.zero_le _, Nat.zero_le _⟩ (s_keptBy_1 g (by omega) (by omega)) ?_
  intro r σ' hr; rw [hr.1, hr.2]; clear hr σ'
  refine e_cv3i (pc' := 23) dX0_choose_20 rfl k_0_37 h_39 rfl (Nat.le_of_ble_eq_true rfl) rfl rfl ⟨rfl, rfl⟩ ⟨Nat.zero_le _, Nat.zero_le _⟩ (s_haveOf_1 ho1 (LgI_q ho hL1 (gfS_rg ho)) g (τ1.1 2 g - gv (τ1.1 6) g) hg) ?_
  intro r σ' hr; rw [hr.1, hr.2]; clear hr σ'
  rw [show hvO τ1 1 (fun w => τ1.1 40 w + τ1.1 42 w) (τ1.1 2 g - gv (τ1.1 6) g) g = bfS σ 1 g from hv_bf (sameScA_1 hF1) hL1]
  refine e_putI (pc' := 26) dX0_choose_23 rfl f_0_41 h_43 rfl rfl rfl ?_
  have hFU : Fr [37, 38, 39, 40, 41, 42, 43, 44, 45, 46] σ (upI τ1 43 5 (bfS σ 1 g)) := fr_I hF1 (by decide)
  have hoU : ScOK (upI τ1 43 5 (bfS σ 1 g)) 1 := ho.cg (sameScA_1 hFU)
  refine e_aload_n (pc' := 27) dX0_choose_26 rfl rfl ?_
  refine e_aload_n (pc' := 28) dX0_choose_27 rfl rfl ?_
  refine e_iload_n (pc' := 29) dX0_choose_28 rfl rfl ?_
  refine e_cv2v (pc' := 32) dX0_choose_29 rfl k_0_45 h_43 rfl (Nat.le_of_ble_eq_true rfl) rfl rfl ⟨rfl, rfl⟩ ⟨Nat.zero_le _, Nat.zero_le _⟩ (s_foresee_1 (σ := (upI τ1 43 5 (bfS σ 1 g))) hoU g hg (fun w a c => (hL1.1 w a c).1.trans (gfS_cg (sameScA_1 hFU) w).symm)) ?_
  rintro τ2 ⟨hS2, hG2⟩
  have hS2' : FsI σ τ2 1 g := FsI_cg ho (sameScA_1 hFU) hS2
  have hF2 : Fr [37, 38, 39, 40, 41, 42, 43, 44, 45, 46] σ τ2 := hFU.tr (hG2.mono (by decide))
  have q43 : τ2.1 43 = ((upI τ1 43 5 (bfS σ 1 g))).1 43 := (hG2 43 (by decide)).1
  have q46 : τ2.1 46 = σ.1 46 := (hG2 46 (by decide)).1.trans (hG1 46 (by decide)).1
  refine e_aload_n (pc' := 33) dX0_choose_32 rfl rfl ?_
  refine e_iconst (pc' := 34) dX0_choose_33 rfl ?_
  refine e_putI (pc' := 37) dX0_choose_34 rfl f_0_49 h_43 rfl rfl rfl ?_
  refine e_aload_n (pc' := 38) dX0_choose_37 rfl rfl ?_
  refine e_getR (pc' := 41) dX0_choose_38 rfl f_0_52 h_1 rfl ?_
  refine e_iload_n (pc' := 42) dX0_choose_41 rfl rfl ?_
  refine e_iald (pc' := 43) (v := (σ.1 2 g)) dX0_choose_42 rfl h_2 (by decide) (by omega) (by omega) ((congrFun (hF2 2 (by decide)).1 g).trans rfl) ?_
  refine e_istore_n (pc' := 44) (L' := [some (rv 43), some (rv 1), some (iv g), some (iv (σ.1 2 g)), none, none, none, none, none, none]) dX0_choose_43 rfl (by decide) rfl ?_
  refine e_aload_n (pc' := 45) dX0_choose_44 rfl rfl ?_
  refine e_getI (pc' := 48) (v := (σ.1 1 7)) dX0_choose_45 rfl f_0_55 h_1 rfl ((congrFun (hF2 1 (by decide)).1 7).trans rfl) ?_
  refine e_ifI (pc' := 51) (t := 55) dX0_choose_48 (by decide) rfl ⟨by omega, by omega⟩ (fun (c2_1 : ((σ.1 1 7) : Int) ≤ 0) => ?_) (fun (c2_1 : ¬ (((σ.1 1 7) : Int) ≤ 0)) => ?_)
  · refine e_iconst (pc' := 56) dX0_choose_55 rfl ?_
    refine e_istore (pc' := 58) (L' := [some (rv 43), some (rv 1), some (iv g), some (iv (σ.1 2 g)), some (iv 0), none, none, none, none, none]) dX0_choose_56 rfl (by decide) rfl ?_
    refine e_iconst (pc' := 59) dX0_choose_58 rfl ?_
    refine e_istore (pc' := 61) (L' := [some (rv 43), some (rv 1), some (iv g), some (iv (σ.1 2 g)), some (iv 0), some (iv 0), none, none, none, none]) dX0_choose_59 rfl (by decide) rfl ?_
    have et : 0 = tp0 (σ.1 1 7) (σ.1 2 g) := by unfold tp0; first | (rw [if_pos (by omega)]) | (rw [if_neg (by omega)])
    refine Eq.mpr (congrArg (fun z : Int => Ev X 0 0 (d + 4) mX0_choose 61 [some (rv 43), some (rv 1), some (iv g), some (iv (σ.1 2 g)), some (iv z), some (iv 0), none, none, none, none] [] (upI τ2 43 4 (-1)) _) et) ?_
    have hco : 0 ≤ (σ.1 2 g) ∧ (σ.1 2 g) ≤ 12 := ho.2.2.2.2.2.2.2.2.2.2.1 g hg.1 hg.2
    refine l_chA_1 ho g hg hot hVr (bfS σ 1 g) (σ.1 46 0) (σ.1 46 1) (σ.1 46 2) (tp0 (σ.1 1 7) (σ.1 2 g) + 2).toNat 0 _ _ _ _ _ (by omega) (by unfold tp0; split <;> omega) (by unfold tp0; split <;> omega) ⟨fr_I hF2 (by decide), hS2'.fr rfl rfl, ?_, ?_⟩ ?_
    · show τ2.1 43 5 = _
      rw [q43]; rfl
    · show rg (-1)
      exact ⟨by decide, by decide⟩
    · show ((-1 : Int), τ2.1 46 0, τ2.1 46 1, τ2.1 46 2) = _
      rw [q46]; rfl
  · refine e_iload_n (pc' := 52) dX0_choose_51 rfl rfl ?_
    refine e_goto (pc' := 56) dX0_choose_52 (by decide) ?_
    refine e_istore (pc' := 58) (L' := [some (rv 43), some (rv 1), some (iv g), some (iv (σ.1 2 g)), some (iv (σ.1 2 g)), none, none, none, none, none]) dX0_choose_56 rfl (by decide) rfl ?_
    refine e_iconst (pc' := 59) dX0_choose_58 rfl ?_
    refine e_istore (pc' := 61) (L' := [some (rv 43), some (rv 1), some (iv g), some (iv (σ.1 2 g)), some (iv (σ.1 2 g)), some (iv 0), none, none, none, none]) dX0_choose_59 rfl (by decide) rfl ?_
    have et : (σ.1 2 g) = tp0 (σ.1 1 7) (σ.1 2 g) := by unfold tp0; first | (rw [if_pos (by omega)]) | (rw [if_neg (by omega)])
    refine Eq.mpr (congrArg (fun z : Int => Ev X 0 0 (d + 4) mX0_choose 61 [some (rv 43), some (rv 1), some (iv g), some (iv (σ.1 2 g)), some (iv z), some (iv 0), none, none, none, none] [] (upI τ2 43 4 (-1)) _) et) ?_
    have hco : 0 ≤ (σ.1 2 g) ∧ (σ.1 2 g) ≤ 12 := ho.2.2.2.2.2.2.2.2.2.2.1 g hg.1 hg.2
    refine l_chA_1 ho g hg hot hVr (bfS σ 1 g) (σ.1 46 0) (σ.1 46 1) (σ.1 46 2) (tp0 (σ.1 1 7) (σ.1 2 g) + 2).toNat 0 _ _ _ _ _ (by omega) (by unfold tp0; split <;> omega) (by unfold tp0; split <;> omega) ⟨fr_I hF2 (by decide), hS2'.fr rfl rfl, ?_, ?_⟩ ?_
    · show τ2.1 43 5 = _
      rw [q43]; rfl
    · show rg (-1)
      exact ⟨by decide, by decide⟩
    · show ((-1 : Int), τ2.1 46 0, τ2.1 46 1, τ2.1 46 2) = _
      rw [q46]; rfl

set_option maxHeartbeats 4000000 in
set_option maxRecDepth 100000 in
theorem s_choose_17 {X : AX} {d : Nat} {σ : SG} (ho : ScOK σ 17) (g : Int) (hg : 0 ≤ g ∧ g < 5) (hot : ∀ w, 0 ≤ w → w < 3 → 0 ≤ gfS σ 17 w - σ.1 22 (g * 3 + w) ∧ gfS σ 17 w - σ.1 22 (g * 3 + w) ≤ 100) (hVr : ∀ x y z, 0 ≤ x → 0 ≤ y → 0 ≤ z → x + y + z ≤ (σ.1 18 g) → rg (bvS σ 17 g x y z)) : Ev X 0 0 (d + 4) mX0_choose 0 [some (rv 43), some (rv 17), some (iv g), none, none, none, none, none, none, none] [] σ (QV (fun σ' => brOf σ' = bsS (bvS σ 17 g) (σ.1 17 7) (σ.1 18 g) (-1, σ.1 46 0, σ.1 46 1, σ.1 46 2) ∧ σ'.1 43 5 = bfS σ 17 g ∧ Fr [37, 38, 39, 40, 41, 42, 43, 44, 45, 46] σ σ')) := by
  have h7 := ho.2.1
  refine e_aload_n (pc' := 1) dX0_choose_0 rfl rfl ?_
  refine e_getR (pc' := 4) dX0_choose_1 rfl f_0_21 h_43 rfl ?_
  refine e_aload_n (pc' := 5) dX0_choose_4 rfl rfl ?_
  refine e_cv1v (pc' := 8) dX0_choose_5 rfl k_0_25 h_39 rfl (Nat.le_of_ble_eq_true rfl) rfl rfl ⟨rfl, rfl⟩ ⟨Nat.zero_le _, Nat.zero_le _⟩ (s_fill_17 ho) ?_
  rintro τ1 ⟨hL1, hG1⟩
  have hF1 : Fr [37, 38, 39, 40, 41, 42, 43, 44, 45, 46] σ τ1 := hG1.mono (by decide)
  have ho1 : ScOK τ1 17 := ho.cg (sameScA_17 hF1)
  refine e_aload_n (pc' := 9) dX0_choose_8 rfl rfl ?_
  refine e_aload_n (pc' := 10) dX0_choose_9 rfl rfl ?_
  refine e_getR (pc' := 13) dX0_choose_10 rfl f_0_21 h_43 rfl ?_
  refine e_aload_n (pc' := 14) dX0_choose_13 rfl rfl ?_
  refine e_iload_n (pc' := 15) dX0_choose_14 rfl rfl ?_
  refine e_aload_n (pc' := 16) dX0_choose_15 rfl rfl ?_
  refine e_iload_n (pc' := 17) dX0_choose_16 rfl rfl ?_
  refine e_cv1i (pc' := 20) dX0_choose_17 rfl k_0_31 h_17 rfl (Nat.le_of_ble_eq_true rfl) rfl rfl ⟨rfl, rfl⟩ ⟨Nat.zero_le _, Nat.zero_le _⟩ (s_keptBy_17 g (by omega) (by omega)) ?_
  intro r σ' hr; rw [hr.1, hr.2]; clear hr σ'
  refine e_cv3i (pc' := 23) dX0_choose_20 rfl k_0_37 h_39 rfl (Nat.le_of_ble_eq_true rfl) rfl rfl ⟨rfl, rfl⟩ ⟨Nat.zero_le _, Nat.zero_le _⟩ (s_haveOf_17 ho1 (LgI_q ho hL1 (gfS_rg ho)) g (τ1.1 18 g - gv (τ1.1 22) g) hg) ?_
  intro r σ' hr; rw [hr.1, hr.2]; clear hr σ'
  rw [show hvO τ1 17 (fun w => τ1.1 40 w + τ1.1 42 w) (τ1.1 18 g - gv (τ1.1 22) g) g = bfS σ 17 g from hv_bf (sameScA_17 hF1) hL1]
  refine e_putI (pc' := 26) dX0_choose_23 rfl f_0_41 h_43 rfl rfl rfl ?_
  have hFU : Fr [37, 38, 39, 40, 41, 42, 43, 44, 45, 46] σ (upI τ1 43 5 (bfS σ 17 g)) := fr_I hF1 (by decide)
  have hoU : ScOK (upI τ1 43 5 (bfS σ 17 g)) 17 := ho.cg (sameScA_17 hFU)
  refine e_aload_n (pc' := 27) dX0_choose_26 rfl rfl ?_
  refine e_aload_n (pc' := 28) dX0_choose_27 rfl rfl ?_
  refine e_iload_n (pc' := 29) dX0_choose_28 rfl rfl ?_
  refine e_cv2v (pc' := 32) dX0_choose_29 rfl k_0_45 h_43 rfl (Nat.le_of_ble_eq_true rfl) rfl rfl ⟨rfl, rfl⟩ ⟨Nat.zero_le _, Nat.zero_le _⟩ (s_foresee_17 (σ := (upI τ1 43 5 (bfS σ 17 g))) hoU g hg (fun w a c => (hL1.1 w a c).1.trans (gfS_cg (sameScA_17 hFU) w).symm)) ?_
  rintro τ2 ⟨hS2, hG2⟩
  have hS2' : FsI σ τ2 17 g := FsI_cg ho (sameScA_17 hFU) hS2
  have hF2 : Fr [37, 38, 39, 40, 41, 42, 43, 44, 45, 46] σ τ2 := hFU.tr (hG2.mono (by decide))
  have q43 : τ2.1 43 = ((upI τ1 43 5 (bfS σ 17 g))).1 43 := (hG2 43 (by decide)).1
  have q46 : τ2.1 46 = σ.1 46 := (hG2 46 (by decide)).1.trans (hG1 46 (by decide)).1
  refine e_aload_n (pc' := 33) dX0_choose_32 rfl rfl ?_
  refine e_iconst (pc' := 34) dX0_choose_33 rfl ?_
  refine e_putI (pc' := 37) dX0_choose_34 rfl f_0_49 h_43 rfl rfl rfl ?_
  refine e_aload_n (pc' := 38) dX0_choose_37 rfl rfl ?_
  refine e_getR (pc' := 41) dX0_choose_38 rfl f_0_52 h_17 rfl ?_
  refine e_iload_n (pc' := 42) dX0_choose_41 rfl rfl ?_
  refine e_iald (pc' := 43) (v := (σ.1 18 g)) dX0_choose_42 rfl h_18 (by decide) (by omega) (by omega) ((congrFun (hF2 18 (by decide)).1 g).trans rfl) ?_
  refine e_istore_n (pc' := 44) (L' := [some (rv 43), some (rv 17), some (iv g), some (iv (σ.1 18 g)), none, none, none, none, none, none]) dX0_choose_43 rfl (by decide) rfl ?_
  refine e_aload_n (pc' := 45) dX0_choose_44 rfl rfl ?_
  refine e_getI (pc' := 48) (v := (σ.1 17 7)) dX0_choose_45 rfl f_0_55 h_17 rfl ((congrFun (hF2 17 (by decide)).1 7).trans rfl) ?_
  refine e_ifI (pc' := 51) (t := 55) dX0_choose_48 (by decide) rfl ⟨by omega, by omega⟩ (fun (c2_1 : ((σ.1 17 7) : Int) ≤ 0) => ?_) (fun (c2_1 : ¬ (((σ.1 17 7) : Int) ≤ 0)) => ?_)
  · refine e_iconst (pc' := 56) dX0_choose_55 rfl ?_
    refine e_istore (pc' := 58) (L' := [some (rv 43), some (rv 17), some (iv g), some (iv (σ.1 18 g)), some (iv 0), none, none, none, none, none]) dX0_choose_56 rfl (by decide) rfl ?_
    refine e_iconst (pc' := 59) dX0_choose_58 rfl ?_
    refine e_istore (pc' := 61) (L' := [some (rv 43), some (rv 17), some (iv g), some (iv (σ.1 18 g)), some (iv 0), some (iv 0), none, none, none, none]) dX0_choose_59 rfl (by decide) rfl ?_
    have et : 0 = tp0 (σ.1 17 7) (σ.1 18 g) := by unfold tp0; first | (rw [if_pos (by omega)]) | (rw [if_neg (by omega)])
    refine Eq.mpr (congrArg (fun z : Int => Ev X 0 0 (d + 4) mX0_choose 61 [some (rv 43), some (rv 17), some (iv g), some (iv (σ.1 18 g)), some (iv z), some (iv 0), none, none, none, none] [] (upI τ2 43 4 (-1)) _) et) ?_
    have hco : 0 ≤ (σ.1 18 g) ∧ (σ.1 18 g) ≤ 12 := ho.2.2.2.2.2.2.2.2.2.2.1 g hg.1 hg.2
    refine l_chA_17 ho g hg hot hVr (bfS σ 17 g) (σ.1 46 0) (σ.1 46 1) (σ.1 46 2) (tp0 (σ.1 17 7) (σ.1 18 g) + 2).toNat 0 _ _ _ _ _ (by omega) (by unfold tp0; split <;> omega) (by unfold tp0; split <;> omega) ⟨fr_I hF2 (by decide), hS2'.fr rfl rfl, ?_, ?_⟩ ?_
    · show τ2.1 43 5 = _
      rw [q43]; rfl
    · show rg (-1)
      exact ⟨by decide, by decide⟩
    · show ((-1 : Int), τ2.1 46 0, τ2.1 46 1, τ2.1 46 2) = _
      rw [q46]; rfl
  · refine e_iload_n (pc' := 52) dX0_choose_51 rfl rfl ?_
    refine e_goto (pc' := 56) dX0_choose_52 (by decide) ?_
    refine e_istore (pc' := 58) (L' := [some (rv 43), some (rv 17), some (iv g), some (iv (σ.1 18 g)), some (iv (σ.1 18 g)), none, none, none, none, none]) dX0_choose_56 rfl (by decide) rfl ?_
    refine e_iconst (pc' := 59) dX0_choose_58 rfl ?_
    refine e_istore (pc' := 61) (L' := [some (rv 43), some (rv 17), some (iv g), some (iv (σ.1 18 g)), some (iv (σ.1 18 g)), some (iv 0), none, none, none, none]) dX0_choose_59 rfl (by decide) rfl ?_
    have et : (σ.1 18 g) = tp0 (σ.1 17 7) (σ.1 18 g) := by unfold tp0; first | (rw [if_pos (by omega)]) | (rw [if_neg (by omega)])
    refine Eq.mpr (congrArg (fun z : Int => Ev X 0 0 (d + 4) mX0_choose 61 [some (rv 43), some (rv 17), some (iv g), some (iv (σ.1 18 g)), some (iv z), some (iv 0), none, none, none, none] [] (upI τ2 43 4 (-1)) _) et) ?_
    have hco : 0 ≤ (σ.1 18 g) ∧ (σ.1 18 g) ≤ 12 := ho.2.2.2.2.2.2.2.2.2.2.1 g hg.1 hg.2
    refine l_chA_17 ho g hg hot hVr (bfS σ 17 g) (σ.1 46 0) (σ.1 46 1) (σ.1 46 2) (tp0 (σ.1 17 7) (σ.1 18 g) + 2).toNat 0 _ _ _ _ _ (by omega) (by unfold tp0; split <;> omega) (by unfold tp0; split <;> omega) ⟨fr_I hF2 (by decide), hS2'.fr rfl rfl, ?_, ?_⟩ ?_
    · show τ2.1 43 5 = _
      rw [q43]; rfl
    · show rg (-1)
      exact ⟨by decide, by decide⟩
    · show ((-1 : Int), τ2.1 46 0, τ2.1 46 1, τ2.1 46 2) = _
      rw [q46]; rfl
