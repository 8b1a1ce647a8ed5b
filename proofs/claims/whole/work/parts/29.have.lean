/-- what a giver has: kept coins, and each work by its amount -/
def hvS (keep kept : Int) (bar first fall a : Int → Int) (g : Int) : Int := keep * kept + wcS (bar 0) (first (g * 3 + 0)) (fall (g * 3 + 0)) (a 0) + wcS (bar 1) (first (g * 3 + 1)) (fall (g * 3 + 1)) (a 1) + wcS (bar 2) (first (g * 3 + 2)) (fall (g * 3 + 2)) (a 2)
def hvO (σ : SG) (b : Nat) (a : Int → Int) (kept g : Int) : Int := hvS (σ.1 b 8) kept (σ.1 (b + 2)) (σ.1 (b + 3)) (σ.1 (b + 4)) a g
def ktO (σ : SG) (b : Nat) (g : Int) : Int := σ.1 (b + 1) g - gv (σ.1 (b + 5)) g

set_option maxHeartbeats 4000000 in
set_option maxRecDepth 100000 in
theorem s_haveOf_1 {X : AX} {d : Nat} {σ : SG} (ho : ScOK σ 1) (hq : ∀ w, 0 ≤ w → w < 3 → 0 ≤ σ.1 40 w + σ.1 42 w ∧ σ.1 40 w + σ.1 42 w ≤ 2000) (g kt : Int) (hg : 0 ≤ g ∧ g < 5) : Ev X 0 0 (d + 2) mX3_haveOf 0 [some (rv 39), some (rv 1), some (iv g), some (iv kt), none, none] [] σ (QI (fun r σ' => σ' = σ ∧ r = hvO σ 1 (fun w => σ.1 40 w + σ.1 42 w) kt g)) := by
  refine e_aload_n (pc' := 1) dX3_haveOf_0 rfl rfl ?_
  refine e_getI (pc' := 4) (v := (σ.1 1 8)) dX3_haveOf_1 rfl f_3_83 h_1 rfl rfl ?_
  refine e_iload_n (pc' := 5) dX3_haveOf_4 rfl rfl ?_
  refine e_imul (pc' := 6) dX3_haveOf_5 rfl ?_
  refine e_istore (pc' := 8) (L' := [some (rv 39), some (rv 1), some (iv g), some (iv kt), some (iv ((σ.1 1 8) * kt)), none]) dX3_haveOf_6 rfl (by decide) rfl ?_
  refine e_iconst (pc' := 9) dX3_haveOf_8 rfl ?_
  refine e_istore (pc' := 11) (L' := [some (rv 39), some (rv 1), some (iv g), some (iv kt), some (iv ((σ.1 1 8) * kt)), some (iv 0)]) dX3_haveOf_9 rfl (by decide) rfl ?_
  refine e_iload (pc' := 13) dX3_haveOf_11 rfl rfl ?_
  refine e_iconst (pc' := 14) dX3_haveOf_13 rfl ?_
  refine e_icmpI (pc' := 17) (t := 50) dX3_haveOf_14 (by decide) rfl ⟨by omega, by omega⟩ ⟨by omega, by omega⟩ (fun c2_1 => absurd (show 3 ≤ (0 : Int) from c2_1) (by decide)) (fun _ => ?_)
  refine e_iload (pc' := 19) dX3_haveOf_17 rfl rfl ?_
  refine e_aload_n (pc' := 20) dX3_haveOf_19 rfl rfl ?_
  refine e_iload_n (pc' := 21) dX3_haveOf_20 rfl rfl ?_
  refine e_iload (pc' := 23) dX3_haveOf_21 rfl rfl ?_
  refine e_aload_n (pc' := 24) dX3_haveOf_23 rfl rfl ?_
  refine e_getR (pc' := 27) dX3_haveOf_24 rfl f_3_9 h_39 rfl ?_
  refine e_iload (pc' := 29) dX3_haveOf_27 rfl rfl ?_
  refine e_iald (pc' := 30) (v := (σ.1 40 0)) dX3_haveOf_29 rfl h_40 (by decide) (by omega) (by omega) rfl ?_
  refine e_aload_n (pc' := 31) dX3_haveOf_30 rfl rfl ?_
  refine e_getR (pc' := 34) dX3_haveOf_31 rfl f_3_18 h_39 rfl ?_
  refine e_iload (pc' := 36) dX3_haveOf_34 rfl rfl ?_
  refine e_iald (pc' := 37) (v := (σ.1 42 0)) dX3_haveOf_36 rfl h_42 (by decide) (by omega) (by omega) rfl ?_
  refine e_iadd (pc' := 38) dX3_haveOf_37 rfl ?_
  refine e_cv3i (pc' := 41) dX3_haveOf_38 rfl k_3_86 h_1 rfl (Nat.le_of_ble_eq_true rfl) rfl rfl ⟨rfl, rfl⟩ ⟨Nat.zero_le _, Nat.zero_le _⟩ (s_worthOf_1 g 0 ((σ.1 40 0) + (σ.1 42 0)) ⟨by omega, by omega⟩ (by decide) (hq 0 (by decide) (by decide)) (ho.2.2.2.2.2.2.2.1 0 (by decide) (by decide)) (ho.2.2.2.2.2.2.2.2.1 (g * 3 + 0) (by omega) (by omega)) (ho.2.2.2.2.2.2.2.2.2.1 (g * 3 + 0) (by omega) (by omega))) ?_
  intro r σ' hr; rw [hr.1, hr.2]; clear hr
  refine e_iadd (pc' := 42) dX3_haveOf_41 rfl ?_
  refine e_istore (pc' := 44) (L' := [some (rv 39), some (rv 1), some (iv g), some (iv kt), some (iv (((σ.1 1 8) * kt) + (wcS (σ.1 3 0) (σ.1 4 (g * 3 + 0)) (σ.1 5 (g * 3 + 0)) ((σ.1 40 0) + (σ.1 42 0))))), some (iv 0)]) dX3_haveOf_42 rfl (by decide) rfl ?_
  refine e_iinc (pc' := 47) (L' := [some (rv 39), some (rv 1), some (iv g), some (iv kt), some (iv (((σ.1 1 8) * kt) + (wcS (σ.1 3 0) (σ.1 4 (g * 3 + 0)) (σ.1 5 (g * 3 + 0)) ((σ.1 40 0) + (σ.1 42 0))))), some (iv 1)]) dX3_haveOf_44 rfl rfl (by decide) rfl ?_
  refine e_goto (pc' := 11) dX3_haveOf_47 (by decide) ?_
  refine e_iload (pc' := 13) dX3_haveOf_11 rfl rfl ?_
  refine e_iconst (pc' := 14) dX3_haveOf_13 rfl ?_
  refine e_icmpI (pc' := 17) (t := 50) dX3_haveOf_14 (by decide) rfl ⟨by omega, by omega⟩ ⟨by omega, by omega⟩ (fun c2_2 => absurd (show 3 ≤ (1 : Int) from c2_2) (by decide)) (fun _ => ?_)
  refine e_iload (pc' := 19) dX3_haveOf_17 rfl rfl ?_
  refine e_aload_n (pc' := 20) dX3_haveOf_19 rfl rfl ?_
  refine e_iload_n (pc' := 21) dX3_haveOf_20 rfl rfl ?_
  refine e_iload (pc' := 23) dX3_haveOf_21 rfl rfl ?_
  refine e_aload_n (pc' := 24) dX3_haveOf_23 rfl rfl ?_
  refine e_getR (pc' := 27) dX3_haveOf_24 rfl f_3_9 h_39 rfl ?_
  refine e_iload (pc' := 29) dX3_haveOf_27 rfl rfl ?_
  refine e_iald (pc' := 30) (v := (σ.1 40 1)) dX3_haveOf_29 rfl h_40 (by decide) (by omega) (by omega) rfl ?_
  refine e_aload_n (pc' := 31) dX3_haveOf_30 rfl rfl ?_
  refine e_getR (pc' := 34) dX3_haveOf_31 rfl f_3_18 h_39 rfl ?_
  refine e_iload (pc' := 36) dX3_haveOf_34 rfl rfl ?_
  refine e_iald (pc' := 37) (v := (σ.1 42 1)) dX3_haveOf_36 rfl h_42 (by decide) (by omega) (by omega) rfl ?_
  refine e_iadd (pc' := 38) dX3_haveOf_37 rfl ?_
  refine e_cv3i (pc' := 41) dX3_haveOf_38 rfl k_3_86 h_1 rfl (Nat.le_of_ble_eq_true rfl) rfl rfl ⟨rfl, rfl⟩ ⟨Nat.zero_le _, Nat.zero_le _⟩ (s_worthOf_1 g 1 ((σ.1 40 1) + (σ.1 42 1)) ⟨by omega, by omega⟩ (by decide) (hq 1 (by decide) (by decide)) (ho.2.2.2.2.2.2.2.1 1 (by decide) (by decide)) (ho.2.2.2.2.2.2.2.2.1 (g * 3 + 1) (by omega) (by omega)) (ho.2.2.2.2.2.2.2.2.2.1 (g * 3 + 1) (by omega) (by omega))) ?_
  intro r σ' hr; rw [hr.1, hr.2]; clear hr
  refine e_iadd (pc' := 42) dX3_haveOf_41 rfl ?_
  refine e_istore (pc' := 44) (L' := [some (rv 39), some (rv 1), some (iv g), some (iv kt), some (iv ((((σ.1 1 8) * kt) + (wcS (σ.1 3 0) (σ.1 4 (g * 3 + 0)) (σ.1 5 (g * 3 + 0)) ((σ.1 40 0) + (σ.1 42 0)))) + (wcS (σ.1 3 1) (σ.1 4 (g * 3 + 1)) (σ.1 5 (g * 3 + 1)) ((σ.1 40 1) + (σ.1 42 1))))), some (iv 1)]) dX3_haveOf_42 rfl (by decide) rfl ?_
  refine e_iinc (pc' := 47) (L' := [some (rv 39), some (rv 1), some (iv g), some (iv kt), some (iv ((((σ.1 1 8) * kt) + (wcS (σ.1 3 0) (σ.1 4 (g * 3 + 0)) (σ.1 5 (g * 3 + 0)) ((σ.1 40 0) + (σ.1 42 0)))) + (wcS (σ.1 3 1) (σ.1 4 (g * 3 + 1)) (σ.1 5 (g * 3 + 1)) ((σ.1 40 1) + (σ.1 42 1))))), some (iv 2)]) dX3_haveOf_44 rfl rfl (by decide) rfl ?_
  refine e_goto (pc' := 11) dX3_haveOf_47 (by decide) ?_
  refine e_iload (pc' := 13) dX3_haveOf_11 rfl rfl ?_
  refine e_iconst (pc' := 14) dX3_haveOf_13 rfl ?_
  refine e_icmpI (pc' := 17) (t := 50) dX3_haveOf_14 (by decide) rfl ⟨by omega, by omega⟩ ⟨by omega, by omega⟩ (fun c2_3 => absurd (show 3 ≤ (2 : Int) from c2_3) (by decide)) (fun _ => ?_)
  refine e_iload (pc' := 19) dX3_haveOf_17 rfl rfl ?_
  refine e_aload_n (pc' := 20) dX3_haveOf_19 rfl rfl ?_
  refine e_iload_n (pc' := 21) dX3_haveOf_20 rfl rfl ?_
  refine e_iload (pc' := 23) dX3_haveOf_21 rfl rfl ?_
  refine e_aload_n (pc' := 24) dX3_haveOf_23 rfl rfl ?_
  refine e_getR (pc' := 27) dX3_haveOf_24 rfl f_3_9 h_39 rfl ?_
  refine e_iload (pc' := 29) dX3_haveOf_27 rfl rfl ?_
  refine e_iald (pc' := 30) (v := (σ.1 40 2)) dX3_haveOf_29 rfl h_40 (by decide) (by omega) (by omega) rfl ?_
  refine e_aload_n (pc' := 31) dX3_haveOf_30 rfl rfl ?_
  refine e_getR (pc' := 34) dX3_haveOf_31 rfl f_3_18 h_39 rfl ?_
  refine e_iload (pc' := 36) dX3_haveOf_34 rfl rfl ?_
  refine e_iald (pc' := 37) (v := (σ.1 42 2)) dX3_haveOf_36 rfl h_42 (by decide) (by omega) (by omega) rfl ?_
  refine e_iadd (pc' := 38) dX3_haveOf_37 rfl ?_
  refine e_cv3i (pc' := 41) dX3_haveOf_38 rfl k_3_86 h_1 rfl (Nat.le_of_ble_eq_true rfl) rfl rfl ⟨rfl, rfl⟩ ⟨Nat.zero_le _, Nat.zero_le _⟩ (s_worthOf_1 g 2 ((σ.1 40 2) + (σ.1 42 2)) ⟨by omega, by omega⟩ (by decide) (hq 2 (by decide) (by decide)) (ho.2.2.2.2.2.2.2.1 2 (by decide) (by decide)) (ho.2.2.2.2.2.2.2.2.1 (g * 3 + 2) (by omega) (by omega)) (ho.2.2.2.2.2.2.2.2.2.1 (g * 3 + 2) (by omega) (by omega))) ?_
  intro r σ' hr; rw [hr.1, hr.2]; clear hr
  refine e_iadd (pc' := 42) dX3_haveOf_41 rfl ?_
  refine e_istore (pc' := 44) (L' := [some (rv 39), some (rv 1), some (iv g), some (iv kt), some (iv (((((σ.1 1 8) * kt) + (wcS (σ.1 3 0) (σ.1 4 (g * 3 + 0)) (σ.1 5 (g * 3 + 0)) ((σ.1 40 0) + (σ.1 42 0)))) + (wcS (σ.1 3 1) (σ.1 4 (g * 3 + 1)) (σ.1 5 (g * 3 + 1)) ((σ.1 40 1) + (σ.1 42 1)))) + (wcS (σ.1 3 2) (σ.1 4 (g * 3 + 2)) (σ.1 5 (g * 3 + 2)) ((σ.1 40 2) + (σ.1 42 2))))), some (iv 2)]) dX3_haveOf_42 rfl (by decide) rfl ?_
  refine e_iinc (pc' := 47) (L' := [some (rv 39), some (rv 1), some (iv g), some (iv kt), some (iv (((((σ.1 1 8) * kt) + (wcS (σ.1 3 0) (σ.1 4 (g * 3 + 0)) (σ.1 5 (g * 3 + 0)) ((σ.1 40 0) + (σ.1 42 0)))) + (wcS (σ.1 3 1) (σ.1 4 (g * 3 + 1)) (σ.1 5 (g * 3 + 1)) ((σ.1 40 1) + (σ.1 42 1)))) + (wcS (σ.1 3 2) (σ.1 4 (g * 3 + 2)) (σ.1 5 (g * 3 + 2)) ((σ.1 40 2) + (σ.1 42 2))))), some (iv 3)]) dX3_haveOf_44 rfl rfl (by decide) rfl ?_
  refine e_goto (pc' := 11) dX3_haveOf_47 (by decide) ?_
  refine e_iload (pc' := 13) dX3_haveOf_11 rfl rfl ?_
  refine e_iconst (pc' := 14) dX3_haveOf_13 rfl ?_
  refine e_icmpI (pc' := 17) (t := 50) dX3_haveOf_14 (by decide) rfl ⟨by omega, by omega⟩ ⟨by omega, by omega⟩ (fun _ => ?_) (fun c2_4 => absurd (show 3 ≤ (3 : Int) by decide) c2_4)
  refine e_iload (pc' := 52) dX3_haveOf_50 rfl rfl ?_
  exact e_iret dX3_haveOf_52 rfl ⟨rfl, Nat.le_refl _⟩ ⟨_, rfl, rfl, rfl⟩

set_option maxHeartbeats 4000000 in
set_option maxRecDepth 100000 in
theorem l_allHave_1 {X : AX} {d : Nat} {σ : SG} (ho : ScOK σ 1) (hq : ∀ w, 0 ≤ w → w < 3 → 0 ≤ σ.1 40 w + σ.1 42 w ∧ σ.1 40 w + σ.1 42 w ≤ 2000) : ∀ (k : Nat) (cs i : Int), 0 ≤ i → i ≤ σ.1 1 6 → σ.1 1 6 - i < k → cs = smI (fun g => hvO σ 1 (fun w => σ.1 40 w + σ.1 42 w) (ktO σ 1 g) g) i → Ev X 0 0 (d + 3) mX3_allHave 4 [some (rv 39), some (rv 1), some (iv cs), some (iv i)] [] σ (QI (fun r σ' => σ' = σ ∧ r = smI (fun g => hvO σ 1 (fun w => σ.1 40 w + σ.1 42 w) (ktO σ 1 g) g) (σ.1 1 6))) := by
  intro k
  induction k with
  | zero => intros; omega
  | succ k ih =>
  intro cs i hi0 hi1 hik hc
  have h6 := ho.1
  refine e_iload_n (pc' := 5) dX3_allHave_4 rfl rfl ?_
  refine e_aload_n (pc' := 6) dX3_allHave_5 rfl rfl ?_
  refine e_getI (pc' := 9) (v := (σ.1 1 6)) dX3_allHave_6 rfl f_3_90 h_1 rfl rfl ?_
  refine e_icmpI (pc' := 12) (t := 32) dX3_allHave_9 (by decide) rfl ⟨by omega, by omega⟩ ⟨by omega, by omega⟩ (fun (c2_1 : (σ.1 1 6) ≤ (i : Int)) => ?_) (fun (c2_1 : ¬ ((σ.1 1 6) ≤ (i : Int))) => ?_)
  · refine e_iload_n (pc' := 33) dX3_allHave_32 rfl rfl ?_
    exact e_iret dX3_allHave_33 rfl ⟨rfl, Nat.le_refl _⟩ ⟨_, rfl, rfl, by rw [hc]; congr 1; omega⟩
  · refine e_iload_n (pc' := 13) dX3_allHave_12 rfl rfl ?_
    refine e_aload_n (pc' := 14) dX3_allHave_13 rfl rfl ?_
    refine e_aload_n (pc' := 15) dX3_allHave_14 rfl rfl ?_
    refine e_iload_n (pc' := 16) dX3_allHave_15 rfl rfl ?_
    refine e_aload_n (pc' := 17) dX3_allHave_16 rfl rfl ?_
    refine e_iload_n (pc' := 18) dX3_allHave_17 rfl rfl ?_
    refine e_cv1i (pc' := 21) dX3_allHave_18 rfl k_3_93 h_1 rfl (Nat.le_of_ble_eq_true rfl) rfl rfl ⟨rfl, rfl⟩ ⟨Nat.zero_le _, Nat.zero_le _⟩ (s_keptBy_1 i (by omega) (by omega)) ?_
    intro r σ' hr; rw [hr.1, hr.2]; clear hr
    refine e_cv3i (pc' := 24) dX3_allHave_21 rfl k_3_96 h_39 rfl (Nat.le_of_ble_eq_true rfl) rfl rfl ⟨rfl, rfl⟩ ⟨Nat.zero_le _, Nat.zero_le _⟩ (s_haveOf_1 ho hq i (σ.1 2 i - gv (σ.1 6) i) ⟨by omega, by omega⟩) ?_
    intro r σ' hr; rw [hr.1, hr.2]; clear hr
    refine e_iadd (pc' := 25) dX3_allHave_24 rfl ?_
    refine e_istore_n (pc' := 26) (L' := [some (rv 39), some (rv 1), some (iv (cs + (hvO σ 1 (fun w => σ.1 40 w + σ.1 42 w) (σ.1 2 i - gv (σ.1 6) i) i))), some (iv i)]) dX3_allHave_25 rfl (by decide) rfl ?_
    refine e_iinc (pc' := 29) (L' := [some (rv 39), some (rv 1), some (iv (cs + (hvO σ 1 (fun w => σ.1 40 w + σ.1 42 w) (σ.1 2 i - gv (σ.1 6) i) i))), some (iv (i + 1))]) dX3_allHave_26 rfl rfl (by decide) rfl ?_
    refine e_goto (pc' := 4) dX3_allHave_29 (by decide) ?_
    exact ih _ _ (by omega) (by omega) (by omega) (by rw [smI_s _ (by omega), hc]; rfl)

set_option maxHeartbeats 4000000 in
set_option maxRecDepth 100000 in
theorem s_allHave_1 {X : AX} {d : Nat} {σ : SG} (ho : ScOK σ 1) (hq : ∀ w, 0 ≤ w → w < 3 → 0 ≤ σ.1 40 w + σ.1 42 w ∧ σ.1 40 w + σ.1 42 w ≤ 2000) : Ev X 0 0 (d + 3) mX3_allHave 0 [some (rv 39), some (rv 1), none, none] [] σ (QI (fun r σ' => σ' = σ ∧ r = smI (fun g => hvO σ 1 (fun w => σ.1 40 w + σ.1 42 w) (ktO σ 1 g) g) (σ.1 1 6))) := by
  refine e_iconst (pc' := 1) dX3_allHave_0 rfl ?_
  refine e_istore_n (pc' := 2) (L' := [some (rv 39), some (rv 1), some (iv 0), none]) dX3_allHave_1 rfl (by decide) rfl ?_
  refine e_iconst (pc' := 3) dX3_allHave_2 rfl ?_
  refine e_istore_n (pc' := 4) (L' := [some (rv 39), some (rv 1), some (iv 0), some (iv 0)]) dX3_allHave_3 rfl (by decide) rfl ?_
  have h6 := ho.1
  exact l_allHave_1 ho hq (σ.1 1 6 + 1).toNat _ _ (by omega) (by omega) (by omega) rfl

set_option maxHeartbeats 4000000 in
set_option maxRecDepth 100000 in
theorem s_haveOf_17 {X : AX} {d : Nat} {σ : SG} (ho : ScOK σ 17) (hq : ∀ w, 0 ≤ w → w < 3 → 0 ≤ σ.1 40 w + σ.1 42 w ∧ σ.1 40 w + σ.1 42 w ≤ 2000) (g kt : Int) (hg : 0 ≤ g ∧ g < 5) : Ev X 0 0 (d + 2) mX3_haveOf 0 [some (rv 39), some (rv 17), some (iv g), some (iv kt), none, none] [] σ (QI (fun r σ' => σ' = σ ∧ r = hvO σ 17 (fun w => σ.1 40 w + σ.1 42 w) kt g)) := by
  refine e_aload_n (pc' := 1) dX3_haveOf_0 rfl rfl ?_
  refine e_getI (pc' := 4) (v := (σ.1 17 8)) dX3_haveOf_1 rfl f_3_83 h_17 rfl rfl ?_
  refine e_iload_n (pc' := 5) dX3_haveOf_4 rfl rfl ?_
  refine e_imul (pc' := 6) dX3_haveOf_5 rfl ?_
  refine e_istore (pc' := 8) (L' := [some (rv 39), some (rv 17), some (iv g), some (iv kt), some (iv ((σ.1 17 8) * kt)), none]) dX3_haveOf_6 rfl (by decide) rfl ?_
  refine e_iconst (pc' := 9) dX3_haveOf_8 rfl ?_
  refine e_istore (pc' := 11) (L' := [some (rv 39), some (rv 17), some (iv g), some (iv kt), some (iv ((σ.1 17 8) * kt)), some (iv 0)]) dX3_haveOf_9 rfl (by decide) rfl ?_
  refine e_iload (pc' := 13) dX3_haveOf_11 rfl rfl ?_
  refine e_iconst (pc' := 14) dX3_haveOf_13 rfl ?_
  refine e_icmpI (pc' := 17) (t := 50) dX3_haveOf_14 (by decide) rfl ⟨by omega, by omega⟩ ⟨by omega, by omega⟩ (fun c2_1 => absurd (show 3 ≤ (0 : Int) from c2_1) (by decide)) (fun _ => ?_)
  refine e_iload (pc' := 19) dX3_haveOf_17 rfl rfl ?_
  refine e_aload_n (pc' := 20) dX3_haveOf_19 rfl rfl ?_
  refine e_iload_n (pc' := 21) dX3_haveOf_20 rfl rfl ?_
  refine e_iload (pc' := 23) dX3_haveOf_21 rfl rfl ?_
  refine e_aload_n (pc' := 24) dX3_haveOf_23 rfl rfl ?_
  refine e_getR (pc' := 27) dX3_haveOf_24 rfl f_3_9 h_39 rfl ?_
  refine e_iload (pc' := 29) dX3_haveOf_27 rfl rfl ?_
  refine e_iald (pc' := 30) (v := (σ.1 40 0)) dX3_haveOf_29 rfl h_40 (by decide) (by omega) (by omega) rfl ?_
  refine e_aload_n (pc' := 31) dX3_haveOf_30 rfl rfl ?_
  refine e_getR (pc' := 34) dX3_haveOf_31 rfl f_3_18 h_39 rfl ?_
  refine e_iload (pc' := 36) dX3_haveOf_34 rfl rfl ?_
  refine e_iald (pc' := 37) (v := (σ.1 42 0)) dX3_haveOf_36 rfl h_42 (by decide) (by omega) (by omega) rfl ?_
  refine e_iadd (pc' := 38) dX3_haveOf_37 rfl ?_
  refine e_cv3i (pc' := 41) dX3_haveOf_38 rfl k_3_86 h_17 rfl (Nat.le_of_ble_eq_true rfl) rfl rfl ⟨rfl, rfl⟩ ⟨Nat.zero_le _, Nat.zero_le _⟩ (s_worthOf_17 g 0 ((σ.1 40 0) + (σ.1 42 0)) ⟨by omega, by omega⟩ (by decide) (hq 0 (by decide) (by decide)) (ho.2.2.2.2.2.2.2.1 0 (by decide) (by decide)) (ho.2.2.2.2.2.2.2.2.1 (g * 3 + 0) (by omega) (by omega)) (ho.2.2.2.2.2.2.2.2.2.1 (g * 3 + 0) (by omega) (by omega))) ?_
  intro r σ' hr; rw [hr.1, hr.2]; clear hr
  refine e_iadd (pc' := 42) dX3_haveOf_41 rfl ?_
  refine e_istore (pc' := 44) (L' := [some (rv 39), some (rv 17), some (iv g), some (iv kt), some (iv (((σ.1 17 8) * kt) + (wcS (σ.1 19 0) (σ.1 20 (g * 3 + 0)) (σ.1 21 (g * 3 + 0)) ((σ.1 40 0) + (σ.1 42 0))))), some (iv 0)]) dX3_haveOf_42 rfl (by decide) rfl ?_
  refine e_iinc (pc' := 47) (L' := [some (rv 39), some (rv 17), some (iv g), some (iv kt), some (iv (((σ.1 17 8) * kt) + (wcS (σ.1 19 0) (σ.1 20 (g * 3 + 0)) (σ.1 21 (g * 3 + 0)) ((σ.1 40 0) + (σ.1 42 0))))), some (iv 1)]) dX3_haveOf_44 rfl rfl (by decide) rfl ?_
  refine e_goto (pc' := 11) dX3_haveOf_47 (by decide) ?_
  refine e_iload (pc' := 13) dX3_haveOf_11 rfl rfl ?_
  refine e_iconst (pc' := 14) dX3_haveOf_13 rfl ?_
  refine e_icmpI (pc' := 17) (t := 50) dX3_haveOf_14 (by decide) rfl ⟨by omega, by omega⟩ ⟨by omega, by omega⟩ (fun c2_2 => absurd (show 3 ≤ (1 : Int) from c2_2) (by decide)) (fun _ => ?_)
  refine e_iload (pc' := 19) dX3_haveOf_17 rfl rfl ?_
  refine e_aload_n (pc' := 20) dX3_haveOf_19 rfl rfl ?_
  refine e_iload_n (pc' := 21) dX3_haveOf_20 rfl rfl ?_
  refine e_iload (pc' := 23) dX3_haveOf_21 rfl rfl ?_
  refine e_aload_n (pc' := 24) dX3_haveOf_23 rfl rfl ?_
  refine e_getR (pc' := 27) dX3_haveOf_24 rfl f_3_9 h_39 rfl ?_
  refine e_iload (pc' := 29) dX3_haveOf_27 rfl rfl ?_
  refine e_iald (pc' := 30) (v := (σ.1 40 1)) dX3_haveOf_29 rfl h_40 (by decide) (by omega) (by omega) rfl ?_
  refine e_aload_n (pc' := 31) dX3_haveOf_30 rfl rfl ?_
  refine e_getR (pc' := 34) dX3_haveOf_31 rfl f_3_18 h_39 rfl ?_
  refine e_iload (pc' := 36) dX3_haveOf_34 rfl rfl ?_
  refine e_iald (pc' := 37) (v := (σ.1 42 1)) dX3_haveOf_36 rfl h_42 (by decide) (by omega) (by omega) rfl ?_
  refine e_iadd (pc' := 38) dX3_haveOf_37 rfl ?_
  refine e_cv3i (pc' := 41) dX3_haveOf_38 rfl k_3_86 h_17 rfl (Nat.le_of_ble_eq_true rfl) rfl rfl ⟨rfl, rfl⟩ ⟨Nat.zero_le _, Nat.zero_le _⟩ (s_worthOf_17 g 1 ((σ.1 40 1) + (σ.1 42 1)) ⟨by omega, by omega⟩ (by decide) (hq 1 (by decide) (by decide)) (ho.2.2.2.2.2.2.2.1 1 (by decide) (by decide)) (ho.2.2.2.2.2.2.2.2.1 (g * 3 + 1) (by omega) (by omega)) (ho.2.2.2.2.2.2.2.2.2.1 (g * 3 + 1) (by omega) (by omega))) ?_
  intro r σ' hr; rw [hr.1, hr.2]; clear hr
  refine e_iadd (pc' := 42) dX3_haveOf_41 rfl ?_
  refine e_istore (pc' := 44) (L' := [some (rv 39), some (rv 17), some (iv g), some (iv kt), some (iv ((((σ.1 17 8) * kt) + (wcS (σ.1 19 0) (σ.1 20 (g * 3 + 0)) (σ.1 21 (g * 3 + 0)) ((σ.1 40 0) + (σ.1 42 0)))) + (wcS (σ.1 19 1) (σ.1 20 (g * 3 + 1)) (σ.1 21 (g * 3 + 1)) ((σ.1 40 1) + (σ.1 42 1))))), some (iv 1)]) dX3_haveOf_42 rfl (by decide) rfl ?_
  refine e_iinc (pc' := 47) (L' := [some (rv 39), some (rv 17), some (iv g), some (iv kt), some (iv ((((σ.1 17 8) * kt) + (wcS (σ.1 19 0) (σ.1 20 (g * 3 + 0)) (σ.1 21 (g * 3 + 0)) ((σ.1 40 0) + (σ.1 42 0)))) + (wcS (σ.1 19 1) (σ.1 20 (g * 3 + 1)) (σ.1 21 (g * 3 + 1)) ((σ.1 40 1) + (σ.1 42 1))))), some (iv 2)]) dX3_haveOf_44 rfl rfl (by decide) rfl ?_
  refine e_goto (pc' := 11) dX3_haveOf_47 (by decide) ?_
  refine e_iload (pc' := 13) dX3_haveOf_11 rfl rfl ?_
  refine e_iconst (pc' := 14) dX3_haveOf_13 rfl ?_
  refine e_icmpI (pc' := 17) (t := 50) dX3_haveOf_14 (by decide) rfl ⟨by omega, by omega⟩ ⟨by omega, by omega⟩ (fun c2_3 => absurd (show 3 ≤ (2 : Int) from c2_3) (by decide)) (fun _ => ?_)
  refine e_iload (pc' := 19) dX3_haveOf_17 rfl rfl ?_
  refine e_aload_n (pc' := 20) dX3_haveOf_19 rfl rfl ?_
  refine e_iload_n (pc' := 21) dX3_haveOf_20 rfl rfl ?_
  refine e_iload (pc' := 23) dX3_haveOf_21 rfl rfl ?_
  refine e_aload_n (pc' := 24) dX3_haveOf_23 rfl rfl ?_
  refine e_getR (pc' := 27) dX3_haveOf_24 rfl f_3_9 h_39 rfl ?_
  refine e_iload (pc' := 29) dX3_haveOf_27 rfl rfl ?_
  refine e_iald (pc' := 30) (v := (σ.1 40 2)) dX3_haveOf_29 rfl h_40 (by decide) (by omega) (by omega) rfl ?_
  refine e_aload_n (pc' := 31) dX3_haveOf_30 rfl rfl ?_
  refine e_getR (pc' := 34) dX3_haveOf_31 rfl f_3_18 h_39 rfl ?_
  refine e_iload (pc' := 36) dX3_haveOf_34 rfl rfl ?_
  refine e_iald (pc' := 37) (v := (σ.1 42 2)) dX3_haveOf_36 rfl h_42 (by decide) (by omega) (by omega) rfl ?_
  refine e_iadd (pc' := 38) dX3_haveOf_37 rfl ?_
  refine e_cv3i (pc' := 41) dX3_haveOf_38 rfl k_3_86 h_17 rfl (Nat.le_of_ble_eq_true rfl) rfl rfl ⟨rfl, rfl⟩ ⟨Nat.zero_le _, Nat.zero_le _⟩ (s_worthOf_17 g 2 ((σ.1 40 2) + (σ.1 42 2)) ⟨by omega, by omega⟩ (by decide) (hq 2 (by decide) (by decide)) (ho.2.2.2.2.2.2.2.1 2 (by decide) (by decide)) (ho.2.2.2.2.2.2.2.2.1 (g * 3 + 2) (by omega) (by omega)) (ho.2.2.2.2.2.2.2.2.2.1 (g * 3 + 2) (by omega) (by omega))) ?_
  intro r σ' hr; rw [hr.1, hr.2]; clear hr
  refine e_iadd (pc' := 42) dX3_haveOf_41 rfl ?_
  refine e_istore (pc' := 44) (L' := [some (rv 39), some (rv 17), some (iv g), some (iv kt), some (iv (((((σ.1 17 8) * kt) + (wcS (σ.1 19 0) (σ.1 20 (g * 3 + 0)) (σ.1 21 (g * 3 + 0)) ((σ.1 40 0) + (σ.1 42 0)))) + (wcS (σ.1 19 1) (σ.1 20 (g * 3 + 1)) (σ.1 21 (g * 3 + 1)) ((σ.1 40 1) + (σ.1 42 1)))) + (wcS (σ.1 19 2) (σ.1 20 (g * 3 + 2)) (σ.1 21 (g * 3 + 2)) ((σ.1 40 2) + (σ.1 42 2))))), some (iv 2)]) dX3_haveOf_42 rfl (by decide) rfl ?_
  refine e_iinc (pc' := 47) (L' := [some (rv 39), some (rv 17), some (iv g), some (iv kt), some (iv (((((σ.1 17 8) * kt) + (wcS (σ.1 19 0) (σ.1 20 (g * 3 + 0)) (σ.1 21 (g * 3 + 0)) ((σ.1 40 0) + (σ.1 42 0)))) + (wcS (σ.1 19 1) (σ.1 20 (g * 3 + 1)) (σ.1 21 (g * 3 + 1)) ((σ.1 40 1) + (σ.1 42 1)))) + (wcS (σ.1 19 2) (σ.1 20 (g * 3 + 2)) (σ.1 21 (g * 3 + 2)) ((σ.1 40 2) + (σ.1 42 2))))), some (iv 3)]) dX3_haveOf_44 rfl rfl (by decide) rfl ?_
  refine e_goto (pc' := 11) dX3_haveOf_47 (by decide) ?_
  refine e_iload (pc' := 13) dX3_haveOf_11 rfl rfl ?_
  refine e_iconst (pc' := 14) dX3_haveOf_13 rfl ?_
  refine e_icmpI (pc' := 17) (t := 50) dX3_haveOf_14 (by decide) rfl ⟨by omega, by omega⟩ ⟨by omega, by omega⟩ (fun _ => ?_) (fun c2_4 => absurd (show 3 ≤ (3 : Int) by decide) c2_4)
  refine e_iload (pc' := 52) dX3_haveOf_50 rfl rfl ?_
  exact e_iret dX3_haveOf_52 rfl ⟨rfl, Nat.le_refl _⟩ ⟨_, rfl, rfl, rfl⟩

set_option maxHeartbeats 4000000 in
set_option maxRecDepth 100000 in
theorem l_allHave_17 {X : AX} {d : Nat} {σ : SG} (ho : ScOK σ 17) (hq : ∀ w, 0 ≤ w → w < 3 → 0 ≤ σ.1 40 w + σ.1 42 w ∧ σ.1 40 w + σ.1 42 w ≤ 2000) : ∀ (k : Nat) (cs i : Int), 0 ≤ i → i ≤ σ.1 17 6 → σ.1 17 6 - i < k → cs = smI (fun g => hvO σ 17 (fun w => σ.1 40 w + σ.1 42 w) (ktO σ 17 g) g) i → Ev X 0 0 (d + 3) mX3_allHave 4 [some (rv 39), some (rv 17), some (iv cs), some (iv i)] [] σ (QI (fun r σ' => σ' = σ ∧ r = smI (fun g => hvO σ 17 (fun w => σ.1 40 w + σ.1 42 w) (ktO σ 17 g) g) (σ.1 17 6))) := by
  intro k
  induction k with
  | zero => intros; omega
  | succ k ih =>
  intro cs i hi0 hi1 hik hc
  have h6 := ho.1
  refine e_iload_n (pc' := 5) dX3_allHave_4 rfl rfl ?_
  refine e_aload_n (pc' := 6) dX3_allHave_5 rfl rfl ?_
  refine e_getI (pc' := 9) (v := (σ.1 17 6)) dX3_allHave_6 rfl f_3_90 h_17 rfl rfl ?_
  refine e_icmpI (pc' := 12) (t := 32) dX3_allHave_9 (by decide) rfl ⟨by omega, by omega⟩ ⟨by omega, by omega⟩ (fun (c2_1 : (σ.1 17 6) ≤ (i : Int)) => ?_) (fun (c2_1 : ¬ ((σ.1 17 6) ≤ (i : Int))) => ?_)
  · refine e_iload_n (pc' := 33) dX3_allHave_32 rfl rfl ?_
    exact e_iret dX3_allHave_33 rfl ⟨rfl, Nat.le_refl _⟩ ⟨_, rfl, rfl, by rw [hc]; congr 1; omega⟩
  · refine e_iload_n (pc' := 13) dX3_allHave_12 rfl rfl ?_
    refine e_aload_n (pc' := 14) dX3_allHave_13 rfl rfl ?_
    refine e_aload_n (pc' := 15) dX3_allHave_14 rfl rfl ?_
    refine e_iload_n (pc' := 16) dX3_allHave_15 rfl rfl ?_
    refine e_aload_n (pc' := 17) dX3_allHave_16 rfl rfl ?_
    refine e_iload_n (pc' := 18) dX3_allHave_17 rfl rfl ?_
    refine e_cv1i (pc' := 21) dX3_allHave_18 rfl k_3_93 h_17 rfl (Nat.le_of_ble_eq_true rfl) rfl rfl ⟨rfl, rfl⟩ ⟨Nat.zero_le _, Nat.zero_le _⟩ (s_keptBy_17 i (by omega) (by omega)) ?_
    intro r σ' hr; rw [hr.1, hr.2]; clear hr
    refine e_cv3i (pc' := 24) dX3_allHave_21 rfl k_3_96 h_39 rfl (Nat.le_of_ble_eq_true rfl) rfl rfl ⟨rfl, rfl⟩ ⟨Nat.zero_le _, Nat.zero_le _⟩ (s_haveOf_17 ho hq i (σ.1 18 i - gv (σ.1 22) i) ⟨by omega, by omega⟩) ?_
    intro r σ' hr; rw [hr.1, hr.2]; clear hr
    refine e_iadd (pc' := 25) dX3_allHave_24 rfl ?_
    refine e_istore_n (pc' := 26) (L' := [some (rv 39), some (rv 17), some (iv (cs + (hvO σ 17 (fun w => σ.1 40 w + σ.1 42 w) (σ.1 18 i - gv (σ.1 22) i) i))), some (iv i)]) dX3_allHave_25 rfl (by decide) rfl ?_
    refine e_iinc (pc' := 29) (L' := [some (rv 39), some (rv 17), some (iv (cs + (hvO σ 17 (fun w => σ.1 40 w + σ.1 42 w) (σ.1 18 i - gv (σ.1 22) i) i))), some (iv (i + 1))]) dX3_allHave_26 rfl rfl (by decide) rfl ?_
    refine e_goto (pc' := 4) dX3_allHave_29 (by decide) ?_
    exact ih _ _ (by omega) (by omega) (by omega) (by rw [smI_s _ (by omega), hc]; rfl)

set_option maxHeartbeats 4000000 in
set_option maxRecDepth 100000 in
theorem s_allHave_17 {X : AX} {d : Nat} {σ : SG} (ho : ScOK σ 17) (hq : ∀ w, 0 ≤ w → w < 3 → 0 ≤ σ.1 40 w + σ.1 42 w ∧ σ.1 40 w + σ.1 42 w ≤ 2000) : Ev X 0 0 (d + 3) mX3_allHave 0 [some (rv 39), some (rv 17), none, none] [] σ (QI (fun r σ' => σ' = σ ∧ r = smI (fun g => hvO σ 17 (fun w => σ.1 40 w + σ.1 42 w) (ktO σ 17 g) g) (σ.1 17 6))) := by
  refine e_iconst (pc' := 1) dX3_allHave_0 rfl ?_
  refine e_istore_n (pc' := 2) (L' := [some (rv 39), some (rv 17), some (iv 0), none]) dX3_allHave_1 rfl (by decide) rfl ?_
  refine e_iconst (pc' := 3) dX3_allHave_2 rfl ?_
  refine e_istore_n (pc' := 4) (L' := [some (rv 39), some (rv 17), some (iv 0), some (iv 0)]) dX3_allHave_3 rfl (by decide) rfl ?_
  have h6 := ho.1
  exact l_allHave_17 ho hq (σ.1 17 6 + 1).toNat _ _ (by omega) (by omega) (by omega) rfl
