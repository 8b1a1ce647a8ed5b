/-! the reference: small methods -/
theorem i64_to {x : Int} (h : rg x) : (Int64.ofInt x).toInt = x := by
  have := h.1
  have := h.2
  exact Int64.toInt_ofInt_of_le (by omega) (by omega)

set_option maxHeartbeats 4000000 in
set_option maxRecDepth 100000 in
theorem s_m_in0 {X : AX} {d : Nat} {σ : SG} (a b c : Int64) : Ev X 0 0 d mX11_in 0 [some (jv a), none, some (jv b), none, some (jv c), none] [] σ (QI (fun r σ' => σ' = σ ∧ r = if b.toInt ≤ a.toInt ∧ a.toInt ≤ c.toInt then 1 else 0)) := by
  refine e_lload_n (pc' := 1) dX11_in_0 rfl rfl ?_
  refine e_lload_n (pc' := 2) dX11_in_1 rfl rfl ?_
  refine e_lcmp (pc' := 3) dX11_in_2 rfl ?_
  refine e_ifJ (pc' := 6) (t := 17) dX11_in_3 (by decide) rfl (fun (c2_1 : (a : Int64) < b) => ?_) (fun (c2_1 : ¬ ((a : Int64) < b)) => ?_)
  · refine e_iconst (pc' := 18) dX11_in_17 rfl ?_
    exact e_zret dX11_in_18 rfl (by decide) ⟨rfl, Nat.le_refl _⟩ ⟨_, rfl, rfl, by simp only [Int64.lt_iff_toInt_lt, Int64.le_iff_toInt_le] at *; first | (rw [if_pos (by omega)]) | (rw [if_neg (by omega)])⟩
  · refine e_lload_n (pc' := 7) dX11_in_6 rfl rfl ?_
    refine e_lload (pc' := 9) dX11_in_7 rfl rfl ?_
    refine e_lcmp (pc' := 10) dX11_in_9 rfl ?_
    refine e_ifJ (pc' := 13) (t := 17) dX11_in_10 (by decide) rfl (fun (c4_2 : c < (a : Int64)) => ?_) (fun (c4_2 : ¬ (c < (a : Int64))) => ?_)
    · refine e_iconst (pc' := 18) dX11_in_17 rfl ?_
      exact e_zret dX11_in_18 rfl (by decide) ⟨rfl, Nat.le_refl _⟩ ⟨_, rfl, rfl, by simp only [Int64.lt_iff_toInt_lt, Int64.le_iff_toInt_le] at *; first | (rw [if_pos (by omega)]) | (rw [if_neg (by omega)])⟩
    · refine e_iconst (pc' := 14) dX11_in_13 rfl ?_
      refine e_goto (pc' := 18) dX11_in_14 (by decide) ?_
      exact e_zret dX11_in_18 rfl (by decide) ⟨rfl, Nat.le_refl _⟩ ⟨_, rfl, rfl, by simp only [Int64.lt_iff_toInt_lt, Int64.le_iff_toInt_le] at *; first | (rw [if_pos (by omega)]) | (rw [if_neg (by omega)])⟩

theorem s_m_in {X : AX} {d : Nat} {σ : SG} {a b c : Int64} (v lo hi : Int) (ha : a.toInt = v) (hb : b.toInt = lo) (hc : c.toInt = hi) : Ev X 0 0 d mX11_in 0 [some (jv a), none, some (jv b), none, some (jv c), none] [] σ (QI (fun r σ' => σ' = σ ∧ r = if lo ≤ v ∧ v ≤ hi then 1 else 0)) := by
  subst ha hb hc
  exact s_m_in0 a b c

set_option maxHeartbeats 4000000 in
set_option maxRecDepth 100000 in
theorem s_m_givers {X : AX} {d : Nat} {σ : SG} : Ev X 0 0 d mX11_givers 0 [some (rv 88)] [] σ (QI (fun r σ' => σ' = σ ∧ r = σ.1 89 180)) := by
  refine e_aload_n (pc' := 1) dX11_givers_0 rfl rfl ?_
  refine e_getR (pc' := 4) dX11_givers_1 rfl f_11_7 h_88 rfl ?_
  refine e_sipush (pc' := 7) (z := 180) dX11_givers_4 rfl (by decide) ?_
  refine e_iald (pc' := 8) (v := (σ.1 89 180)) dX11_givers_7 rfl h_89 (by decide) (by omega) (by omega) rfl ?_
  exact e_iret dX11_givers_8 rfl ⟨rfl, Nat.le_refl _⟩ ⟨_, rfl, rfl, rfl⟩

set_option maxHeartbeats 4000000 in
set_option maxRecDepth 100000 in
theorem s_m_works {X : AX} {d : Nat} {σ : SG} : Ev X 0 0 d mX11_works 0 [some (rv 88)] [] σ (QI (fun r σ' => σ' = σ ∧ r = σ.1 89 181)) := by
  refine e_aload_n (pc' := 1) dX11_works_0 rfl rfl ?_
  refine e_getR (pc' := 4) dX11_works_1 rfl f_11_7 h_88 rfl ?_
  refine e_sipush (pc' := 7) (z := 181) dX11_works_4 rfl (by decide) ?_
  refine e_iald (pc' := 8) (v := (σ.1 89 181)) dX11_works_7 rfl h_89 (by decide) (by omega) (by omega) rfl ?_
  exact e_iret dX11_works_8 rfl ⟨rfl, Nat.le_refl _⟩ ⟨_, rfl, rfl, rfl⟩

set_option maxHeartbeats 4000000 in
set_option maxRecDepth 100000 in
theorem s_m_isGiver {X : AX} {d : Nat} {σ : SG} (v : Int) (hv : rg v) (hg : 0 ≤ σ.1 89 180 ∧ σ.1 89 180 ≤ 5) : Ev X 0 0 (d + 1) mX11_isGiver 0 [some (rv 88), some (iv v)] [] σ (QI (fun r σ' => σ' = σ ∧ r = if 0 ≤ v ∧ v < σ.1 89 180 then 1 else 0)) := by
  obtain ⟨hv1, hv2⟩ := hv
  refine e_iload_n (pc' := 1) dX11_isGiver_0 rfl rfl ?_
  refine e_i2l (pc' := 2) dX11_isGiver_1 rfl ⟨by omega, by omega⟩ ?_
  refine e_lconst (pc' := 3) (z := 0) dX11_isGiver_2 rfl rfl ?_
  refine e_aload_n (pc' := 4) dX11_isGiver_3 rfl rfl ?_
  refine e_cv0i (pc' := 7) dX11_isGiver_4 rfl k_11_76 h_88 rfl (Nat.le_of_ble_eq_true rfl) rfl rfl ⟨rfl, rfl⟩ ⟨Nat.zero_le _, Nat.zero_le _⟩ s_m_givers ?_
  intro r σ' hr; rw [hr.1, hr.2]; clear hr
  refine e_iconst (pc' := 8) dX11_isGiver_7 rfl ?_
  refine e_isub (pc' := 9) dX11_isGiver_8 rfl ?_
  refine e_i2l (pc' := 10) dX11_isGiver_9 rfl ⟨by omega, by omega⟩ ?_
  refine e_cs3i (pc' := 13) dX11_isGiver_10 rfl pn_11_80 k_11_80 (Nat.le_of_ble_eq_true rfl) rfl rfl ⟨rfl, rfl⟩ ⟨Nat.zero_le _, Nat.zero_le _⟩ (s_m_in v 0 ((σ.1 89 180) - 1) (i64_to ⟨by omega, by omega⟩) (by decide) (i64_to ⟨by omega, by omega⟩)) ?_
  intro r σ' hr; rw [hr.1, hr.2]; clear hr
  exact e_zret dX11_isGiver_13 rfl (by split <;> simp) ⟨rfl, Nat.le_refl _⟩ ⟨_, rfl, rfl, by split <;> split <;> first | rfl | omega⟩

set_option maxHeartbeats 4000000 in
set_option maxRecDepth 100000 in
theorem s_m_isWork {X : AX} {d : Nat} {σ : SG} (v : Int) (hv : rg v) (hg : 0 ≤ σ.1 89 181 ∧ σ.1 89 181 ≤ 3) : Ev X 0 0 (d + 1) mX11_isWork 0 [some (rv 88), some (iv v)] [] σ (QI (fun r σ' => σ' = σ ∧ r = if 0 ≤ v ∧ v < σ.1 89 181 then 1 else 0)) := by
  obtain ⟨hv1, hv2⟩ := hv
  refine e_iload_n (pc' := 1) dX11_isWork_0 rfl rfl ?_
  refine e_i2l (pc' := 2) dX11_isWork_1 rfl ⟨by omega, by omega⟩ ?_
  refine e_lconst (pc' := 3) (z := 0) dX11_isWork_2 rfl rfl ?_
  refine e_aload_n (pc' := 4) dX11_isWork_3 rfl rfl ?_
  refine e_cv0i (pc' := 7) dX11_isWork_4 rfl k_11_84 h_88 rfl (Nat.le_of_ble_eq_true rfl) rfl rfl ⟨rfl, rfl⟩ ⟨Nat.zero_le _, Nat.zero_le _⟩ s_m_works ?_
  intro r σ' hr; rw [hr.1, hr.2]; clear hr
  refine e_iconst (pc' := 8) dX11_isWork_7 rfl ?_
  refine e_isub (pc' := 9) dX11_isWork_8 rfl ?_
  refine e_i2l (pc' := 10) dX11_isWork_9 rfl ⟨by omega, by omega⟩ ?_
  refine e_cs3i (pc' := 13) dX11_isWork_10 rfl pn_11_80 k_11_80 (Nat.le_of_ble_eq_true rfl) rfl rfl ⟨rfl, rfl⟩ ⟨Nat.zero_le _, Nat.zero_le _⟩ (s_m_in v 0 ((σ.1 89 181) - 1) (i64_to ⟨by omega, by omega⟩) (by decide) (i64_to ⟨by omega, by omega⟩)) ?_
  intro r σ' hr; rw [hr.1, hr.2]; clear hr
  exact e_zret dX11_isWork_13 rfl (by split <;> simp) ⟨rfl, Nat.le_refl _⟩ ⟨_, rfl, rfl, by split <;> split <;> first | rfl | omega⟩

set_option maxHeartbeats 4000000 in
set_option maxRecDepth 100000 in
theorem s_m_isRule {X : AX} {d : Nat} {σ : SG} (v : Int) (hv : rg v) : Ev X 0 0 (d + 1) mX11_isRule 0 [some (iv v)] [] σ (QI (fun r σ' => σ' = σ ∧ r = if 0 ≤ v ∧ v ≤ 2 then 1 else 0)) := by
  obtain ⟨hv1, hv2⟩ := hv
  refine e_iload_n (pc' := 1) dX11_isRule_0 rfl rfl ?_
  refine e_i2l (pc' := 2) dX11_isRule_1 rfl ⟨by omega, by omega⟩ ?_
  refine e_lconst (pc' := 3) (z := 0) dX11_isRule_2 rfl rfl ?_
  refine e_ldc2 (pc' := 6) dX11_isRule_3 rfl c_11_106 ?_
  refine e_cs3i (pc' := 9) dX11_isRule_6 rfl pn_11_80 k_11_80 (Nat.le_of_ble_eq_true rfl) rfl rfl ⟨rfl, rfl⟩ ⟨Nat.zero_le _, Nat.zero_le _⟩ (s_m_in v 0 2 (i64_to ⟨by omega, by omega⟩) (by decide) (by decide)) ?_
  intro r σ' hr; rw [hr.1, hr.2]; clear hr
  exact e_zret dX11_isRule_9 rfl (by split <;> simp) ⟨rfl, Nat.le_refl _⟩ ⟨_, rfl, rfl, rfl⟩

set_option maxHeartbeats 4000000 in
set_option maxRecDepth 100000 in
theorem s_m_gift {X : AX} {d : Nat} {σ : SG} (g k : Int) (h0 : 0 ≤ 35 + 3 * g + k) (h1 : 35 + 3 * g + k < 182) : Ev X 0 0 d mX11_gift 0 [some (rv 88), some (iv g), some (iv k)] [] σ (QI (fun r σ' => σ' = σ ∧ r = σ.1 89 (35 + 3 * g + k))) := by
  refine e_aload_n (pc' := 1) dX11_gift_0 rfl rfl ?_
  refine e_getR (pc' := 4) dX11_gift_1 rfl f_11_7 h_88 rfl ?_
  refine e_bipush (pc' := 6) (z := 35) dX11_gift_4 rfl (by decide) ?_
  refine e_iconst (pc' := 7) dX11_gift_6 rfl ?_
  refine e_iload_n (pc' := 8) dX11_gift_7 rfl rfl ?_
  refine e_imul (pc' := 9) dX11_gift_8 rfl ?_
  refine e_iadd (pc' := 10) dX11_gift_9 rfl ?_
  refine e_iload_n (pc' := 11) dX11_gift_10 rfl rfl ?_
  refine e_iadd (pc' := 12) dX11_gift_11 rfl ?_
  refine e_iald (pc' := 13) (v := (σ.1 89 ((35 + (3 * g)) + k))) dX11_gift_12 rfl h_89 (by decide) (by omega) (by omega) rfl ?_
  exact e_iret dX11_gift_13 rfl ⟨rfl, Nat.le_refl _⟩ ⟨_, rfl, rfl, rfl⟩

set_option maxHeartbeats 4000000 in
set_option maxRecDepth 100000 in
theorem s_m_giver_ {X : AX} {d : Nat} {σ : SG} (hg : 0 ≤ σ.1 89 180 ∧ σ.1 89 180 ≤ 5) (hw : 0 ≤ σ.1 89 181 ∧ σ.1 89 181 ≤ 3) (c : Int) (hc : rg c) : Ev X 0 0 (d + 1) mX11_giver 0 [some (rv 88), some (iv c)] [] σ (QI (fun r σ' => if 0 ≤ c ∧ c ≤ 12 then (if σ.1 89 180 = 5 then (r = -4 ∧ σ' = σ) else (r = σ.1 89 180 ∧ σ'.1 89 = updA (updA (σ.1 89) (0 + σ.1 89 180) c) 180 (σ.1 89 180 + 1) ∧ Fr [89] σ σ')) else (r = -2 ∧ σ' = σ))) := by
  obtain ⟨hc1, hc2⟩ := id hc
  refine e_iload_n (pc' := 1) dX11_giver_0 rfl rfl ?_
  refine e_i2l (pc' := 2) dX11_giver_1 rfl ⟨by first | omega | (split <;> omega), by first | omega | (split <;> omega)⟩ ?_
  refine e_lconst (pc' := 3) (z := 0) dX11_giver_2 rfl rfl ?_
  refine e_ldc2 (pc' := 6) dX11_giver_3 rfl c_11_87 ?_
  refine e_cs3i (pc' := 9) dX11_giver_6 rfl pn_11_80 k_11_80 (Nat.le_of_ble_eq_true rfl) rfl rfl ⟨rfl, rfl⟩ ⟨Nat.zero_le _, Nat.zero_le _⟩ (s_m_in c 0 12 (i64_to ⟨by omega, by omega⟩) (by decide) (by decide)) ?_
  intro r σ' hr; rw [hr.1, hr.2]; clear hr
  refine e_ifI (pc' := 12) (t := 15) dX11_giver_9 (by decide) rfl ⟨by first | omega | (split <;> omega), by first | omega | (split <;> omega)⟩ (fun (c2_1 : ((if 0 ≤ c ∧ c ≤ 12 then 1 else 0) : Int) ≠ 0) => ?_) (fun (c2_1 : ¬ (((if 0 ≤ c ∧ c ≤ 12 then 1 else 0) : Int) ≠ 0)) => ?_)
  · have c2_1n : 0 ≤ c ∧ c ≤ 12 := Classical.byContradiction (fun q => absurd (if_neg q : (if 0 ≤ c ∧ c ≤ 12 then (1 : Int) else 0) = 0) (by have := c2_1; omega))
    refine e_aload_n (pc' := 16) dX11_giver_15 rfl rfl ?_
    refine e_cv0i (pc' := 19) dX11_giver_16 rfl k_11_76 h_88 rfl (Nat.le_of_ble_eq_true rfl) rfl rfl ⟨rfl, rfl⟩ ⟨Nat.zero_le _, Nat.zero_le _⟩ s_m_givers ?_
    intro r σ' hr; rw [hr.1, hr.2]; clear hr
    refine e_iconst (pc' := 20) dX11_giver_19 rfl ?_
    refine e_icmpI (pc' := 23) (t := 26) dX11_giver_20 (by decide) rfl ⟨by first | omega | (split <;> omega), by first | omega | (split <;> omega)⟩ ⟨by omega, by omega⟩ (fun (c4_2 : ((σ.1 89 180) : Int) ≠ 5) => ?_) (fun (c4_2 : ¬ (((σ.1 89 180) : Int) ≠ 5)) => ?_)
    · refine e_aload_n (pc' := 27) dX11_giver_26 rfl rfl ?_
      refine e_getR (pc' := 30) dX11_giver_27 rfl f_11_7 h_88 rfl ?_
      refine e_iconst (pc' := 31) dX11_giver_30 rfl ?_
      refine e_aload_n (pc' := 32) dX11_giver_31 rfl rfl ?_
      refine e_cv0i (pc' := 35) dX11_giver_32 rfl k_11_76 h_88 rfl (Nat.le_of_ble_eq_true rfl) rfl rfl ⟨rfl, rfl⟩ ⟨Nat.zero_le _, Nat.zero_le _⟩ s_m_givers ?_
      intro r σ' hr; rw [hr.1, hr.2]; clear hr
      refine e_iadd (pc' := 36) dX11_giver_35 rfl ?_
      refine e_iload_n (pc' := 37) dX11_giver_36 rfl rfl ?_
      refine e_iast (pc' := 38) dX11_giver_37 rfl h_89 (by decide) (by omega) (by omega) ?_
      have hrd : (upI σ 89 (0 + (σ.1 89 180)) c).1 89 180 = σ.1 89 180 := if_neg (by omega)
      refine e_aload_n (pc' := 39) dX11_giver_38 rfl rfl ?_
      refine e_getR (pc' := 42) dX11_giver_39 rfl f_11_7 h_88 rfl ?_
      refine e_sipush (pc' := 45) (z := 180) dX11_giver_42 rfl (by decide) ?_
      refine e_dup2 (pc' := 46) dX11_giver_45 rfl ⟨rfl, rfl⟩ ?_
      refine e_iald (pc' := 47) (v := (σ.1 89 180)) dX11_giver_46 rfl h_89 (by decide) (by omega) (by omega) hrd ?_
      refine e_iconst (pc' := 48) dX11_giver_47 rfl ?_
      refine e_iadd (pc' := 49) dX11_giver_48 rfl ?_
      refine e_iast (pc' := 50) dX11_giver_49 rfl h_89 (by decide) (by omega) (by omega) ?_
      refine e_aload_n (pc' := 51) dX11_giver_50 rfl rfl ?_
      refine e_cv0i (pc' := 54) dX11_giver_51 rfl k_11_76 h_88 rfl (Nat.le_of_ble_eq_true rfl) rfl rfl ⟨rfl, rfl⟩ ⟨Nat.zero_le _, Nat.zero_le _⟩ s_m_givers ?_
      intro r σ' hr; rw [hr.1, hr.2, show (upI (upI σ 89 (0 + (σ.1 89 180)) c) 89 180 ((σ.1 89 180) + 1)).1 89 180 = ((σ.1 89 180) + 1) from rfl]; clear hr
      refine e_iconst (pc' := 55) dX11_giver_54 rfl ?_
      refine e_isub (pc' := 56) dX11_giver_55 rfl ?_
      exact e_iret dX11_giver_56 rfl ⟨rfl, Nat.le_refl _⟩ ⟨_, rfl, by dsimp only; rw [if_pos (by omega), if_neg (by omega)]; exact ⟨by omega, by rw [upI_fn, upI_fn], (by repeat (first | exact Fr.rf | assumption | (refine fr_I ?_ (by decide)) | (refine fr_J ?_ (by decide)) | (refine fr_C ?_ (by decide))))⟩⟩
    · refine e_bipush (pc' := 25) (z := (-4)) dX11_giver_23 rfl (by decide) ?_
      exact e_iret dX11_giver_25 rfl ⟨rfl, Nat.le_refl _⟩ ⟨_, rfl, by dsimp only; first | (rw [if_neg (by omega)]; exact ⟨rfl, rfl⟩) | (rw [if_pos (by omega), if_pos (by omega)]; exact ⟨rfl, rfl⟩)⟩
  · have c2_1n : ¬ (0 ≤ c ∧ c ≤ 12) := fun q => absurd (if_pos q : (if 0 ≤ c ∧ c ≤ 12 then (1 : Int) else 0) = 1) (by have := c2_1; omega)
    refine e_bipush (pc' := 14) (z := (-2)) dX11_giver_12 rfl (by decide) ?_
    exact e_iret dX11_giver_14 rfl ⟨rfl, Nat.le_refl _⟩ ⟨_, rfl, by dsimp only; first | (rw [if_neg (by omega)]; exact ⟨rfl, rfl⟩) | (rw [if_pos (by omega), if_pos (by omega)]; exact ⟨rfl, rfl⟩)⟩

set_option maxHeartbeats 4000000 in
set_option maxRecDepth 100000 in
theorem s_m_work_ {X : AX} {d : Nat} {σ : SG} (hg : 0 ≤ σ.1 89 180 ∧ σ.1 89 180 ≤ 5) (hw : 0 ≤ σ.1 89 181 ∧ σ.1 89 181 ≤ 3) (c : Int) (hc : rg c) : Ev X 0 0 (d + 1) mX11_work 0 [some (rv 88), some (iv c)] [] σ (QI (fun r σ' => if 0 ≤ c ∧ c ≤ 60 then (if σ.1 89 181 = 3 then (r = -4 ∧ σ' = σ) else (r = σ.1 89 181 ∧ σ'.1 89 = updA (updA (σ.1 89) (50 + σ.1 89 181) c) 181 (σ.1 89 181 + 1) ∧ Fr [89] σ σ')) else (r = -2 ∧ σ' = σ))) := by
  obtain ⟨hc1, hc2⟩ := id hc
  refine e_iload_n (pc' := 1) dX11_work_0 rfl rfl ?_
  refine e_i2l (pc' := 2) dX11_work_1 rfl ⟨by first | omega | (split <;> omega), by first | omega | (split <;> omega)⟩ ?_
  refine e_lconst (pc' := 3) (z := 0) dX11_work_2 rfl rfl ?_
  refine e_ldc2 (pc' := 6) dX11_work_3 rfl c_11_89 ?_
  refine e_cs3i (pc' := 9) dX11_work_6 rfl pn_11_80 k_11_80 (Nat.le_of_ble_eq_true rfl) rfl rfl ⟨rfl, rfl⟩ ⟨Nat.zero_le _, Nat.zero_le _⟩ (s_m_in c 0 60 (i64_to ⟨by omega, by omega⟩) (by decide) (by decide)) ?_
  intro r σ' hr; rw [hr.1, hr.2]; clear hr
  refine e_ifI (pc' := 12) (t := 15) dX11_work_9 (by decide) rfl ⟨by first | omega | (split <;> omega), by first | omega | (split <;> omega)⟩ (fun (c2_1 : ((if 0 ≤ c ∧ c ≤ 60 then 1 else 0) : Int) ≠ 0) => ?_) (fun (c2_1 : ¬ (((if 0 ≤ c ∧ c ≤ 60 then 1 else 0) : Int) ≠ 0)) => ?_)
  · have c2_1n : 0 ≤ c ∧ c ≤ 60 := Classical.byContradiction (fun q => absurd (if_neg q : (if 0 ≤ c ∧ c ≤ 60 then (1 : Int) else 0) = 0) (by have := c2_1; omega))
    refine e_aload_n (pc' := 16) dX11_work_15 rfl rfl ?_
    refine e_cv0i (pc' := 19) dX11_work_16 rfl k_11_84 h_88 rfl (Nat.le_of_ble_eq_true rfl) rfl rfl ⟨rfl, rfl⟩ ⟨Nat.zero_le _, Nat.zero_le _⟩ s_m_works ?_
    intro r σ' hr; rw [hr.1, hr.2]; clear hr
    refine e_iconst (pc' := 20) dX11_work_19 rfl ?_
    refine e_icmpI (pc' := 23) (t := 26) dX11_work_20 (by decide) rfl ⟨by first | omega | (split <;> omega), by first | omega | (split <;> omega)⟩ ⟨by omega, by omega⟩ (fun (c4_2 : ((σ.1 89 181) : Int) ≠ 3) => ?_) (fun (c4_2 : ¬ (((σ.1 89 181) : Int) ≠ 3)) => ?_)
    · refine e_aload_n (pc' := 27) dX11_work_26 rfl rfl ?_
      refine e_getR (pc' := 30) dX11_work_27 rfl f_11_7 h_88 rfl ?_
      refine e_bipush (pc' := 32) (z := 50) dX11_work_30 rfl (by decide) ?_
      refine e_aload_n (pc' := 33) dX11_work_32 rfl rfl ?_
      refine e_cv0i (pc' := 36) dX11_work_33 rfl k_11_84 h_88 rfl (Nat.le_of_ble_eq_true rfl) rfl rfl ⟨rfl, rfl⟩ ⟨Nat.zero_le _, Nat.zero_le _⟩ s_m_works ?_
      intro r σ' hr; rw [hr.1, hr.2]; clear hr
      refine e_iadd (pc' := 37) dX11_work_36 rfl ?_
      refine e_iload_n (pc' := 38) dX11_work_37 rfl rfl ?_
      refine e_iast (pc' := 39) dX11_work_38 rfl h_89 (by decide) (by omega) (by omega) ?_
      have hrd : (upI σ 89 (50 + (σ.1 89 181)) c).1 89 181 = σ.1 89 181 := if_neg (by omega)
      refine e_aload_n (pc' := 40) dX11_work_39 rfl rfl ?_
      refine e_getR (pc' := 43) dX11_work_40 rfl f_11_7 h_88 rfl ?_
      refine e_sipush (pc' := 46) (z := 181) dX11_work_43 rfl (by decide) ?_
      refine e_dup2 (pc' := 47) dX11_work_46 rfl ⟨rfl, rfl⟩ ?_
      refine e_iald (pc' := 48) (v := (σ.1 89 181)) dX11_work_47 rfl h_89 (by decide) (by omega) (by omega) hrd ?_
      refine e_iconst (pc' := 49) dX11_work_48 rfl ?_
      refine e_iadd (pc' := 50) dX11_work_49 rfl ?_
      refine e_iast (pc' := 51) dX11_work_50 rfl h_89 (by decide) (by omega) (by omega) ?_
      refine e_aload_n (pc' := 52) dX11_work_51 rfl rfl ?_
      refine e_cv0i (pc' := 55) dX11_work_52 rfl k_11_84 h_88 rfl (Nat.le_of_ble_eq_true rfl) rfl rfl ⟨rfl, rfl⟩ ⟨Nat.zero_le _, Nat.zero_le _⟩ s_m_works ?_
      intro r σ' hr; rw [hr.1, hr.2, show (upI (upI σ 89 (50 + (σ.1 89 181)) c) 89 181 ((σ.1 89 181) + 1)).1 89 181 = ((σ.1 89 181) + 1) from rfl]; clear hr
      refine e_iconst (pc' := 56) dX11_work_55 rfl ?_
      refine e_isub (pc' := 57) dX11_work_56 rfl ?_
      exact e_iret dX11_work_57 rfl ⟨rfl, Nat.le_refl _⟩ ⟨_, rfl, by dsimp only; rw [if_pos (by omega), if_neg (by omega)]; exact ⟨by omega, by rw [upI_fn, upI_fn], (by repeat (first | exact Fr.rf | assumption | (refine fr_I ?_ (by decide)) | (refine fr_J ?_ (by decide)) | (refine fr_C ?_ (by decide))))⟩⟩
    · refine e_bipush (pc' := 25) (z := (-4)) dX11_work_23 rfl (by decide) ?_
      exact e_iret dX11_work_25 rfl ⟨rfl, Nat.le_refl _⟩ ⟨_, rfl, by dsimp only; first | (rw [if_neg (by omega)]; exact ⟨rfl, rfl⟩) | (rw [if_pos (by omega), if_pos (by omega)]; exact ⟨rfl, rfl⟩)⟩
  · have c2_1n : ¬ (0 ≤ c ∧ c ≤ 60) := fun q => absurd (if_pos q : (if 0 ≤ c ∧ c ≤ 60 then (1 : Int) else 0) = 1) (by have := c2_1; omega)
    refine e_bipush (pc' := 14) (z := (-2)) dX11_work_12 rfl (by decide) ?_
    exact e_iret dX11_work_14 rfl ⟨rfl, Nat.le_refl _⟩ ⟨_, rfl, by dsimp only; first | (rw [if_neg (by omega)]; exact ⟨rfl, rfl⟩) | (rw [if_pos (by omega), if_pos (by omega)]; exact ⟨rfl, rfl⟩)⟩

set_option maxHeartbeats 4000000 in
set_option maxRecDepth 100000 in
theorem s_m_worth {X : AX} {d : Nat} {σ : SG} (hg : 0 ≤ σ.1 89 180 ∧ σ.1 89 180 ≤ 5) (hw : 0 ≤ σ.1 89 181 ∧ σ.1 89 181 ≤ 3) (g w a b : Int) (hg0 : rg g) (hw0 : rg w) (ha : rg a) (hb : rg b) : Ev X 0 0 (d + 2) mX11_worth 0 [some (rv 88), some (iv g), some (iv w), some (iv a), some (iv b)] [] σ (QI (fun r σ' => if ((0 ≤ g ∧ g < σ.1 89 180) ∧ (0 ≤ w ∧ w < σ.1 89 181)) ∧ (0 ≤ a ∧ a ≤ 200) ∧ (0 ≤ b ∧ b ≤ 50) then (r = 1 ∧ σ'.1 89 = updA (updA (σ.1 89) (5 + 2 * (g * 3 + w)) a) (6 + 2 * (g * 3 + w)) b ∧ Fr [89] σ σ') else (r = -2 ∧ σ' = σ))) := by
  obtain ⟨hg01, hg02⟩ := id hg0
  obtain ⟨hw01, hw02⟩ := id hw0
  obtain ⟨ha1, ha2⟩ := id ha
  obtain ⟨hb1, hb2⟩ := id hb
  refine e_aload_n (pc' := 1) dX11_worth_0 rfl rfl ?_
  refine e_iload_n (pc' := 2) dX11_worth_1 rfl rfl ?_
  refine e_cv1i (pc' := 5) dX11_worth_2 rfl k_11_91 h_88 rfl (Nat.le_of_ble_eq_true rfl) rfl rfl ⟨rfl, rfl⟩ ⟨Nat.zero_le _, Nat.zero_le _⟩ (s_m_isGiver g ⟨by omega, by omega⟩ hg) ?_
  intro r σ' hr; rw [hr.1, hr.2]; clear hr
  refine e_ifI (pc' := 8) (t := 41) dX11_worth_5 (by decide) rfl ⟨by first | omega | (split <;> omega), by first | omega | (split <;> omega)⟩ (fun (c2_1 : ((if 0 ≤ g ∧ g < σ.1 89 180 then 1 else 0) : Int) = 0) => ?_) (fun (c2_1 : ¬ (((if 0 ≤ g ∧ g < σ.1 89 180 then 1 else 0) : Int) = 0)) => ?_)
  · have c2_1n : ¬ (0 ≤ g ∧ g < σ.1 89 180) := fun q => absurd (if_pos q : (if 0 ≤ g ∧ g < σ.1 89 180 then (1 : Int) else 0) = 1) (by have := c2_1; omega)
    refine e_bipush (pc' := 43) (z := (-2)) dX11_worth_41 rfl (by decide) ?_
    exact e_iret dX11_worth_43 rfl ⟨rfl, Nat.le_refl _⟩ ⟨_, rfl, by dsimp only; rw [if_neg (by omega)]; exact ⟨rfl, rfl⟩⟩
  · have c2_1n : 0 ≤ g ∧ g < σ.1 89 180 := Classical.byContradiction (fun q => absurd (if_neg q : (if 0 ≤ g ∧ g < σ.1 89 180 then (1 : Int) else 0) = 0) (by have := c2_1; omega))
    refine e_aload_n (pc' := 9) dX11_worth_8 rfl rfl ?_
    refine e_iload_n (pc' := 10) dX11_worth_9 rfl rfl ?_
    refine e_cv1i (pc' := 13) dX11_worth_10 rfl k_11_95 h_88 rfl (Nat.le_of_ble_eq_true rfl) rfl rfl ⟨rfl, rfl⟩ ⟨Nat.zero_le _, Nat.zero_le _⟩ (s_m_isWork w ⟨by omega, by omega⟩ hw) ?_
    intro r σ' hr; rw [hr.1, hr.2]; clear hr
    refine e_ifI (pc' := 16) (t := 41) dX11_worth_13 (by decide) rfl ⟨by first | omega | (split <;> omega), by first | omega | (split <;> omega)⟩ (fun (c4_2 : ((if 0 ≤ w ∧ w < σ.1 89 181 then 1 else 0) : Int) = 0) => ?_) (fun (c4_2 : ¬ (((if 0 ≤ w ∧ w < σ.1 89 181 then 1 else 0) : Int) = 0)) => ?_)
    · have c4_2n : ¬ (0 ≤ w ∧ w < σ.1 89 181) := fun q => absurd (if_pos q : (if 0 ≤ w ∧ w < σ.1 89 181 then (1 : Int) else 0) = 1) (by have := c4_2; omega)
      refine e_bipush (pc' := 43) (z := (-2)) dX11_worth_41 rfl (by decide) ?_
      exact e_iret dX11_worth_43 rfl ⟨rfl, Nat.le_refl _⟩ ⟨_, rfl, by dsimp only; rw [if_neg (by omega)]; exact ⟨rfl, rfl⟩⟩
    · have c4_2n : 0 ≤ w ∧ w < σ.1 89 181 := Classical.byContradiction (fun q => absurd (if_neg q : (if 0 ≤ w ∧ w < σ.1 89 181 then (1 : Int) else 0) = 0) (by have := c4_2; omega))
      refine e_iload_n (pc' := 17) dX11_worth_16 rfl rfl ?_
      refine e_i2l (pc' := 18) dX11_worth_17 rfl ⟨by first | omega | (split <;> omega), by first | omega | (split <;> omega)⟩ ?_
      refine e_lconst (pc' := 19) (z := 0) dX11_worth_18 rfl rfl ?_
      refine e_ldc2 (pc' := 22) dX11_worth_19 rfl c_11_98 ?_
      refine e_cs3i (pc' := 25) dX11_worth_22 rfl pn_11_80 k_11_80 (Nat.le_of_ble_eq_true rfl) rfl rfl ⟨rfl, rfl⟩ ⟨Nat.zero_le _, Nat.zero_le _⟩ (s_m_in a 0 200 (i64_to ⟨by omega, by omega⟩) (by decide) (by decide)) ?_
      intro r σ' hr; rw [hr.1, hr.2]; clear hr
      refine e_ifI (pc' := 28) (t := 41) dX11_worth_25 (by decide) rfl ⟨by first | omega | (split <;> omega), by first | omega | (split <;> omega)⟩ (fun (c6_3 : ((if 0 ≤ a ∧ a ≤ 200 then 1 else 0) : Int) = 0) => ?_) (fun (c6_3 : ¬ (((if 0 ≤ a ∧ a ≤ 200 then 1 else 0) : Int) = 0)) => ?_)
      · have c6_3n : ¬ (0 ≤ a ∧ a ≤ 200) := fun q => absurd (if_pos q : (if 0 ≤ a ∧ a ≤ 200 then (1 : Int) else 0) = 1) (by have := c6_3; omega)
        refine e_bipush (pc' := 43) (z := (-2)) dX11_worth_41 rfl (by decide) ?_
        exact e_iret dX11_worth_43 rfl ⟨rfl, Nat.le_refl _⟩ ⟨_, rfl, by dsimp only; rw [if_neg (by omega)]; exact ⟨rfl, rfl⟩⟩
      · have c6_3n : 0 ≤ a ∧ a ≤ 200 := Classical.byContradiction (fun q => absurd (if_neg q : (if 0 ≤ a ∧ a ≤ 200 then (1 : Int) else 0) = 0) (by have := c6_3; omega))
        refine e_iload (pc' := 30) dX11_worth_28 rfl rfl ?_
        refine e_i2l (pc' := 31) dX11_worth_30 rfl ⟨by first | omega | (split <;> omega), by first | omega | (split <;> omega)⟩ ?_
        refine e_lconst (pc' := 32) (z := 0) dX11_worth_31 rfl rfl ?_
        refine e_ldc2 (pc' := 35) dX11_worth_32 rfl c_11_100 ?_
        refine e_cs3i (pc' := 38) dX11_worth_35 rfl pn_11_80 k_11_80 (Nat.le_of_ble_eq_true rfl) rfl rfl ⟨rfl, rfl⟩ ⟨Nat.zero_le _, Nat.zero_le _⟩ (s_m_in b 0 50 (i64_to ⟨by omega, by omega⟩) (by decide) (by decide)) ?_
        intro r σ' hr; rw [hr.1, hr.2]; clear hr
        refine e_ifI (pc' := 41) (t := 44) dX11_worth_38 (by decide) rfl ⟨by first | omega | (split <;> omega), by first | omega | (split <;> omega)⟩ (fun (c8_4 : ((if 0 ≤ b ∧ b ≤ 50 then 1 else 0) : Int) ≠ 0) => ?_) (fun (c8_4 : ¬ (((if 0 ≤ b ∧ b ≤ 50 then 1 else 0) : Int) ≠ 0)) => ?_)
        · have c8_4n : 0 ≤ b ∧ b ≤ 50 := Classical.byContradiction (fun q => absurd (if_neg q : (if 0 ≤ b ∧ b ≤ 50 then (1 : Int) else 0) = 0) (by have := c8_4; omega))
          refine e_aload_n (pc' := 45) dX11_worth_44 rfl rfl ?_
          refine e_getR (pc' := 48) dX11_worth_45 rfl f_11_7 h_88 rfl ?_
          refine e_iconst (pc' := 49) dX11_worth_48 rfl ?_
          refine e_bipush (pc' := 51) (z := 6) dX11_worth_49 rfl (by decide) ?_
          refine e_iload_n (pc' := 52) dX11_worth_51 rfl rfl ?_
          refine e_imul (pc' := 53) dX11_worth_52 rfl ?_
          refine e_iadd (pc' := 54) dX11_worth_53 rfl ?_
          refine e_iconst (pc' := 55) dX11_worth_54 rfl ?_
          refine e_iload_n (pc' := 56) dX11_worth_55 rfl rfl ?_
          refine e_imul (pc' := 57) dX11_worth_56 rfl ?_
          refine e_iadd (pc' := 58) dX11_worth_57 rfl ?_
          refine e_iload_n (pc' := 59) dX11_worth_58 rfl rfl ?_
          refine e_iast (pc' := 60) dX11_worth_59 rfl h_89 (by decide) (by omega) (by omega) ?_
          refine e_aload_n (pc' := 61) dX11_worth_60 rfl rfl ?_
          refine e_getR (pc' := 64) dX11_worth_61 rfl f_11_7 h_88 rfl ?_
          refine e_iconst (pc' := 65) dX11_worth_64 rfl ?_
          refine e_bipush (pc' := 67) (z := 6) dX11_worth_65 rfl (by decide) ?_
          refine e_iload_n (pc' := 68) dX11_worth_67 rfl rfl ?_
          refine e_imul (pc' := 69) dX11_worth_68 rfl ?_
          refine e_iadd (pc' := 70) dX11_worth_69 rfl ?_
          refine e_iconst (pc' := 71) dX11_worth_70 rfl ?_
          refine e_iload_n (pc' := 72) dX11_worth_71 rfl rfl ?_
          refine e_imul (pc' := 73) dX11_worth_72 rfl ?_
          refine e_iadd (pc' := 74) dX11_worth_73 rfl ?_
          refine e_iconst (pc' := 75) dX11_worth_74 rfl ?_
          refine e_iadd (pc' := 76) dX11_worth_75 rfl ?_
          refine e_iload (pc' := 78) dX11_worth_76 rfl rfl ?_
          refine e_iast (pc' := 79) dX11_worth_78 rfl h_89 (by decide) (by omega) (by omega) ?_
          refine e_iconst (pc' := 80) dX11_worth_79 rfl ?_
          exact e_iret dX11_worth_80 rfl ⟨rfl, Nat.le_refl _⟩ ⟨_, rfl, by dsimp only; rw [if_pos (by omega)]; exact ⟨rfl, by rw [upI_fn, upI_fn, show (5 + 6 * g) + 2 * w = 5 + 2 * (g * 3 + w) by omega, show (5 + 2 * (g * 3 + w)) + 1 = 6 + 2 * (g * 3 + w) by omega], (by repeat (first | exact Fr.rf | assumption | (refine fr_I ?_ (by decide)) | (refine fr_J ?_ (by decide)) | (refine fr_C ?_ (by decide))))⟩⟩
        · have c8_4n : ¬ (0 ≤ b ∧ b ≤ 50) := fun q => absurd (if_pos q : (if 0 ≤ b ∧ b ≤ 50 then (1 : Int) else 0) = 1) (by have := c8_4; omega)
          refine e_bipush (pc' := 43) (z := (-2)) dX11_worth_41 rfl (by decide) ?_
          exact e_iret dX11_worth_43 rfl ⟨rfl, Nat.le_refl _⟩ ⟨_, rfl, by dsimp only; rw [if_neg (by omega)]; exact ⟨rfl, rfl⟩⟩

set_option maxHeartbeats 4000000 in
set_option maxRecDepth 100000 in
theorem s_m_set {X : AX} {d : Nat} {σ : SG} (k v : Int) (hk : rg k) (hv : rg v) : Ev X 0 0 (d + 1) mX11_set 0 [some (rv 88), some (iv k), some (iv v), none] [] σ (QI (fun r σ' => if (k = 0 ∧ 0 ≤ v ∧ v ≤ 99) ∨ (k = 1 ∧ 0 ≤ v ∧ v ≤ 2) ∨ (k = 2 ∧ 0 ≤ v ∧ v ≤ 200) ∨ (k = 3 ∧ 0 ≤ v ∧ v ≤ 2) then (r = σ.1 89 (53 + k) ∧ σ'.1 89 = updA (σ.1 89) (53 + k) v ∧ Fr [89] σ σ') else (r = -2 ∧ σ' = σ))) := by
  obtain ⟨hk1, hk2⟩ := id hk
  obtain ⟨hv1, hv2⟩ := id hv
  refine e_iload_n (pc' := 1) dX11_set_0 rfl rfl ?_
  refine e_i2l (pc' := 2) dX11_set_1 rfl ⟨by first | omega | (split <;> omega), by first | omega | (split <;> omega)⟩ ?_
  refine e_lconst (pc' := 3) (z := 0) dX11_set_2 rfl rfl ?_
  refine e_ldc2 (pc' := 6) dX11_set_3 rfl c_11_102 ?_
  refine e_cs3i (pc' := 9) dX11_set_6 rfl pn_11_80 k_11_80 (Nat.le_of_ble_eq_true rfl) rfl rfl ⟨rfl, rfl⟩ ⟨Nat.zero_le _, Nat.zero_le _⟩ (s_m_in k 0 3 (i64_to ⟨by omega, by omega⟩) (by decide) (by decide)) ?_
  intro r σ' hr; rw [hr.1, hr.2]; clear hr
  refine e_ifI (pc' := 12) (t := 45) dX11_set_9 (by decide) rfl ⟨by first | omega | (split <;> omega), by first | omega | (split <;> omega)⟩ (fun (c2_1 : ((if 0 ≤ k ∧ k ≤ 3 then 1 else 0) : Int) = 0) => ?_) (fun (c2_1 : ¬ (((if 0 ≤ k ∧ k ≤ 3 then 1 else 0) : Int) = 0)) => ?_)
  · have c2_1n : ¬ (0 ≤ k ∧ k ≤ 3) := fun q => absurd (if_pos q : (if 0 ≤ k ∧ k ≤ 3 then (1 : Int) else 0) = 1) (by have := c2_1; omega)
    refine e_bipush (pc' := 47) (z := (-2)) dX11_set_45 rfl (by decide) ?_
    exact e_iret dX11_set_47 rfl ⟨rfl, Nat.le_refl _⟩ ⟨_, rfl, by dsimp only; rw [if_neg (by omega)]; exact ⟨rfl, rfl⟩⟩
  · have c2_1n : 0 ≤ k ∧ k ≤ 3 := Classical.byContradiction (fun q => absurd (if_neg q : (if 0 ≤ k ∧ k ≤ 3 then (1 : Int) else 0) = 0) (by have := c2_1; omega))
    refine e_iload_n (pc' := 13) dX11_set_12 rfl rfl ?_
    refine e_i2l (pc' := 14) dX11_set_13 rfl ⟨by first | omega | (split <;> omega), by first | omega | (split <;> omega)⟩ ?_
    refine e_lconst (pc' := 15) (z := 0) dX11_set_14 rfl rfl ?_
    refine e_iload_n (pc' := 16) dX11_set_15 rfl rfl ?_
    refine e_ifI (pc' := 19) (t := 25) dX11_set_16 (by decide) rfl ⟨by first | omega | (split <;> omega), by first | omega | (split <;> omega)⟩ (fun (c4_2 : (k : Int) ≠ 0) => ?_) (fun (c4_2 : ¬ ((k : Int) ≠ 0)) => ?_)
    · refine e_iload_n (pc' := 26) dX11_set_25 rfl rfl ?_
      refine e_iconst (pc' := 27) dX11_set_26 rfl ?_
      refine e_icmpI (pc' := 30) (t := 36) dX11_set_27 (by decide) rfl ⟨by first | omega | (split <;> omega), by first | omega | (split <;> omega)⟩ ⟨by omega, by omega⟩ (fun (c6_3 : (k : Int) ≠ 2) => ?_) (fun (c6_3 : ¬ ((k : Int) ≠ 2)) => ?_)
      · refine e_ldc2 (pc' := 39) dX11_set_36 rfl c_11_106 ?_
        refine e_cs3i (pc' := 42) dX11_set_39 rfl pn_11_80 k_11_80 (Nat.le_of_ble_eq_true rfl) rfl rfl ⟨rfl, rfl⟩ ⟨Nat.zero_le _, Nat.zero_le _⟩ (s_m_in v 0 2 (i64_to ⟨by omega, by omega⟩) (by decide) (by decide)) ?_
        intro r σ' hr; rw [hr.1, hr.2]; clear hr
        refine e_ifI (pc' := 45) (t := 48) dX11_set_42 (by decide) rfl ⟨by first | omega | (split <;> omega), by first | omega | (split <;> omega)⟩ (fun (c8_4 : ((if 0 ≤ v ∧ v ≤ 2 then 1 else 0) : Int) ≠ 0) => ?_) (fun (c8_4 : ¬ (((if 0 ≤ v ∧ v ≤ 2 then 1 else 0) : Int) ≠ 0)) => ?_)
        · have c8_4n : 0 ≤ v ∧ v ≤ 2 := Classical.byContradiction (fun q => absurd (if_neg q : (if 0 ≤ v ∧ v ≤ 2 then (1 : Int) else 0) = 0) (by have := c8_4; omega))
          refine e_aload_n (pc' := 49) dX11_set_48 rfl rfl ?_
          refine e_getR (pc' := 52) dX11_set_49 rfl f_11_7 h_88 rfl ?_
          refine e_bipush (pc' := 54) (z := 53) dX11_set_52 rfl (by decide) ?_
          refine e_iload_n (pc' := 55) dX11_set_54 rfl rfl ?_
          refine e_iadd (pc' := 56) dX11_set_55 rfl ?_
          refine e_iald (pc' := 57) (v := (σ.1 89 (53 + k))) dX11_set_56 rfl h_89 (by decide) (by omega) (by omega) rfl ?_
          refine e_istore_n (pc' := 58) (L' := [some (rv 88), some (iv k), some (iv v), some (iv (σ.1 89 (53 + k)))]) dX11_set_57 rfl (by decide) rfl ?_
          refine e_aload_n (pc' := 59) dX11_set_58 rfl rfl ?_
          refine e_getR (pc' := 62) dX11_set_59 rfl f_11_7 h_88 rfl ?_
          refine e_bipush (pc' := 64) (z := 53) dX11_set_62 rfl (by decide) ?_
          refine e_iload_n (pc' := 65) dX11_set_64 rfl rfl ?_
          refine e_iadd (pc' := 66) dX11_set_65 rfl ?_
          refine e_iload_n (pc' := 67) dX11_set_66 rfl rfl ?_
          refine e_iast (pc' := 68) dX11_set_67 rfl h_89 (by decide) (by omega) (by omega) ?_
          refine e_iload_n (pc' := 69) dX11_set_68 rfl rfl ?_
          exact e_iret dX11_set_69 rfl ⟨rfl, Nat.le_refl _⟩ ⟨_, rfl, by dsimp only; rw [if_pos (by omega)]; exact ⟨rfl, by rw [upI_fn], (by repeat (first | exact Fr.rf | assumption | (refine fr_I ?_ (by decide)) | (refine fr_J ?_ (by decide)) | (refine fr_C ?_ (by decide))))⟩⟩
        · have c8_4n : ¬ (0 ≤ v ∧ v ≤ 2) := fun q => absurd (if_pos q : (if 0 ≤ v ∧ v ≤ 2 then (1 : Int) else 0) = 1) (by have := c8_4; omega)
          refine e_bipush (pc' := 47) (z := (-2)) dX11_set_45 rfl (by decide) ?_
          exact e_iret dX11_set_47 rfl ⟨rfl, Nat.le_refl _⟩ ⟨_, rfl, by dsimp only; rw [if_neg (by omega)]; exact ⟨rfl, rfl⟩⟩
      · refine e_ldc2 (pc' := 33) dX11_set_30 rfl c_11_98 ?_
        refine e_goto (pc' := 39) dX11_set_33 (by decide) ?_
        refine e_cs3i (pc' := 42) dX11_set_39 rfl pn_11_80 k_11_80 (Nat.le_of_ble_eq_true rfl) rfl rfl ⟨rfl, rfl⟩ ⟨Nat.zero_le _, Nat.zero_le _⟩ (s_m_in v 0 200 (i64_to ⟨by omega, by omega⟩) (by decide) (by decide)) ?_
        intro r σ' hr; rw [hr.1, hr.2]; clear hr
        refine e_ifI (pc' := 45) (t := 48) dX11_set_42 (by decide) rfl ⟨by first | omega | (split <;> omega), by first | omega | (split <;> omega)⟩ (fun (c8_4 : ((if 0 ≤ v ∧ v ≤ 200 then 1 else 0) : Int) ≠ 0) => ?_) (fun (c8_4 : ¬ (((if 0 ≤ v ∧ v ≤ 200 then 1 else 0) : Int) ≠ 0)) => ?_)
        · have c8_4n : 0 ≤ v ∧ v ≤ 200 := Classical.byContradiction (fun q => absurd (if_neg q : (if 0 ≤ v ∧ v ≤ 200 then (1 : Int) else 0) = 0) (by have := c8_4; omega))
          refine e_aload_n (pc' := 49) dX11_set_48 rfl rfl ?_
          refine e_getR (pc' := 52) dX11_set_49 rfl f_11_7 h_88 rfl ?_
          refine e_bipush (pc' := 54) (z := 53) dX11_set_52 rfl (by decide) ?_
          refine e_iload_n (pc' := 55) dX11_set_54 rfl rfl ?_
          refine e_iadd (pc' := 56) dX11_set_55 rfl ?_
          refine e_iald (pc' := 57) (v := (σ.1 89 (53 + k))) dX11_set_56 rfl h_89 (by decide) (by omega) (by omega) rfl ?_
          refine e_istore_n (pc' := 58) (L' := [some (rv 88), some (iv k), some (iv v), some (iv (σ.1 89 (53 + k)))]) dX11_set_57 rfl (by decide) rfl ?_
          refine e_aload_n (pc' := 59) dX11_set_58 rfl rfl ?_
          refine e_getR (pc' := 62) dX11_set_59 rfl f_11_7 h_88 rfl ?_
          refine e_bipush (pc' := 64) (z := 53) dX11_set_62 rfl (by decide) ?_
          refine e_iload_n (pc' := 65) dX11_set_64 rfl rfl ?_
          refine e_iadd (pc' := 66) dX11_set_65 rfl ?_
          refine e_iload_n (pc' := 67) dX11_set_66 rfl rfl ?_
          refine e_iast (pc' := 68) dX11_set_67 rfl h_89 (by decide) (by omega) (by omega) ?_
          refine e_iload_n (pc' := 69) dX11_set_68 rfl rfl ?_
          exact e_iret dX11_set_69 rfl ⟨rfl, Nat.le_refl _⟩ ⟨_, rfl, by dsimp only; rw [if_pos (by omega)]; exact ⟨rfl, by rw [upI_fn], (by repeat (first | exact Fr.rf | assumption | (refine fr_I ?_ (by decide)) | (refine fr_J ?_ (by decide)) | (refine fr_C ?_ (by decide))))⟩⟩
        · have c8_4n : ¬ (0 ≤ v ∧ v ≤ 200) := fun q => absurd (if_pos q : (if 0 ≤ v ∧ v ≤ 200 then (1 : Int) else 0) = 1) (by have := c8_4; omega)
          refine e_bipush (pc' := 47) (z := (-2)) dX11_set_45 rfl (by decide) ?_
          exact e_iret dX11_set_47 rfl ⟨rfl, Nat.le_refl _⟩ ⟨_, rfl, by dsimp only; rw [if_neg (by omega)]; exact ⟨rfl, rfl⟩⟩
    · refine e_ldc2 (pc' := 22) dX11_set_19 rfl c_11_104 ?_
      refine e_goto (pc' := 39) dX11_set_22 (by decide) ?_
      refine e_cs3i (pc' := 42) dX11_set_39 rfl pn_11_80 k_11_80 (Nat.le_of_ble_eq_true rfl) rfl rfl ⟨rfl, rfl⟩ ⟨Nat.zero_le _, Nat.zero_le _⟩ (s_m_in v 0 99 (i64_to ⟨by omega, by omega⟩) (by decide) (by decide)) ?_
      intro r σ' hr; rw [hr.1, hr.2]; clear hr
      refine e_ifI (pc' := 45) (t := 48) dX11_set_42 (by decide) rfl ⟨by first | omega | (split <;> omega), by first | omega | (split <;> omega)⟩ (fun (c6_3 : ((if 0 ≤ v ∧ v ≤ 99 then 1 else 0) : Int) ≠ 0) => ?_) (fun (c6_3 : ¬ (((if 0 ≤ v ∧ v ≤ 99 then 1 else 0) : Int) ≠ 0)) => ?_)
      · have c6_3n : 0 ≤ v ∧ v ≤ 99 := Classical.byContradiction (fun q => absurd (if_neg q : (if 0 ≤ v ∧ v ≤ 99 then (1 : Int) else 0) = 0) (by have := c6_3; omega))
        refine e_aload_n (pc' := 49) dX11_set_48 rfl rfl ?_
        refine e_getR (pc' := 52) dX11_set_49 rfl f_11_7 h_88 rfl ?_
        refine e_bipush (pc' := 54) (z := 53) dX11_set_52 rfl (by decide) ?_
        refine e_iload_n (pc' := 55) dX11_set_54 rfl rfl ?_
        refine e_iadd (pc' := 56) dX11_set_55 rfl ?_
        refine e_iald (pc' := 57) (v := (σ.1 89 (53 + k))) dX11_set_56 rfl h_89 (by decide) (by omega) (by omega) rfl ?_
        refine e_istore_n (pc' := 58) (L' := [some (rv 88), some (iv k), some (iv v), some (iv (σ.1 89 (53 + k)))]) dX11_set_57 rfl (by decide) rfl ?_
        refine e_aload_n (pc' := 59) dX11_set_58 rfl rfl ?_
        refine e_getR (pc' := 62) dX11_set_59 rfl f_11_7 h_88 rfl ?_
        refine e_bipush (pc' := 64) (z := 53) dX11_set_62 rfl (by decide) ?_
        refine e_iload_n (pc' := 65) dX11_set_64 rfl rfl ?_
        refine e_iadd (pc' := 66) dX11_set_65 rfl ?_
        refine e_iload_n (pc' := 67) dX11_set_66 rfl rfl ?_
        refine e_iast (pc' := 68) dX11_set_67 rfl h_89 (by decide) (by omega) (by omega) ?_
        refine e_iload_n (pc' := 69) dX11_set_68 rfl rfl ?_
        exact e_iret dX11_set_69 rfl ⟨rfl, Nat.le_refl _⟩ ⟨_, rfl, by dsimp only; rw [if_pos (by omega)]; exact ⟨rfl, by rw [upI_fn], (by repeat (first | exact Fr.rf | assumption | (refine fr_I ?_ (by decide)) | (refine fr_J ?_ (by decide)) | (refine fr_C ?_ (by decide))))⟩⟩
      · have c6_3n : ¬ (0 ≤ v ∧ v ≤ 99) := fun q => absurd (if_pos q : (if 0 ≤ v ∧ v ≤ 99 then (1 : Int) else 0) = 1) (by have := c6_3; omega)
        refine e_bipush (pc' := 47) (z := (-2)) dX11_set_45 rfl (by decide) ?_
        exact e_iret dX11_set_47 rfl ⟨rfl, Nat.le_refl _⟩ ⟨_, rfl, by dsimp only; rw [if_neg (by omega)]; exact ⟨rfl, rfl⟩⟩

set_option maxHeartbeats 4000000 in
set_option maxRecDepth 100000 in
theorem s_m_write {X : AX} {d : Nat} {σ : SG} (ht : ∀ u, 0 ≤ u → u ≤ 2 → 0 ≤ σ.1 89 (57 + 41 * u) ∧ σ.1 89 (57 + 41 * u) ≤ 40) (u c : Int) (hu : rg u) (hc : rg c) : Ev X 0 0 (d + 2) mX11_write 0 [some (rv 88), some (iv u), some (iv c), none] [] σ (QI (fun r σ' => if (0 ≤ u ∧ u ≤ 2) ∧ (0 ≤ c ∧ c ≤ 127) then (if σ.1 89 (57 + 41 * u) = 40 then (r = -4 ∧ σ' = σ) else (r = σ.1 89 (57 + 41 * u) + 1 ∧ σ'.1 89 = updA (updA (σ.1 89) (57 + 41 * u + 1 + σ.1 89 (57 + 41 * u)) c) (57 + 41 * u) (σ.1 89 (57 + 41 * u) + 1) ∧ Fr [89] σ σ')) else (r = -2 ∧ σ' = σ))) := by
  obtain ⟨hu1, hu2⟩ := id hu
  obtain ⟨hc1, hc2⟩ := id hc
  refine e_iload_n (pc' := 1) dX11_write_0 rfl rfl ?_
  refine e_cs1i (pc' := 4) dX11_write_1 rfl pn_11_108 k_11_108 (Nat.le_of_ble_eq_true rfl) rfl rfl ⟨rfl, rfl⟩ ⟨Nat.zero_le _, Nat.zero_le _⟩ (s_m_isRule u ⟨by omega, by omega⟩) ?_
  intro r σ' hr; rw [hr.1, hr.2]; clear hr
  refine e_ifI (pc' := 7) (t := 19) dX11_write_4 (by decide) rfl ⟨by first | omega | (split <;> omega), by first | omega | (split <;> omega)⟩ (fun (c2_1 : ((if 0 ≤ u ∧ u ≤ 2 then 1 else 0) : Int) = 0) => ?_) (fun (c2_1 : ¬ (((if 0 ≤ u ∧ u ≤ 2 then 1 else 0) : Int) = 0)) => ?_)
  · have c2_1n : ¬ (0 ≤ u ∧ u ≤ 2) := fun q => absurd (if_pos q : (if 0 ≤ u ∧ u ≤ 2 then (1 : Int) else 0) = 1) (by have := c2_1; omega)
    refine e_bipush (pc' := 21) (z := (-2)) dX11_write_19 rfl (by decide) ?_
    exact e_iret dX11_write_21 rfl ⟨rfl, Nat.le_refl _⟩ ⟨_, rfl, by dsimp only; first | (rw [if_neg (by omega)]; exact ⟨rfl, rfl⟩) | (rw [if_pos (by omega), if_pos (by omega)]; exact ⟨rfl, rfl⟩)⟩
  · have c2_1n : 0 ≤ u ∧ u ≤ 2 := Classical.byContradiction (fun q => absurd (if_neg q : (if 0 ≤ u ∧ u ≤ 2 then (1 : Int) else 0) = 0) (by have := c2_1; omega))
    refine e_iload_n (pc' := 8) dX11_write_7 rfl rfl ?_
    refine e_i2l (pc' := 9) dX11_write_8 rfl ⟨by first | omega | (split <;> omega), by first | omega | (split <;> omega)⟩ ?_
    refine e_lconst (pc' := 10) (z := 0) dX11_write_9 rfl rfl ?_
    refine e_ldc2 (pc' := 13) dX11_write_10 rfl c_11_111 ?_
    refine e_cs3i (pc' := 16) dX11_write_13 rfl pn_11_80 k_11_80 (Nat.le_of_ble_eq_true rfl) rfl rfl ⟨rfl, rfl⟩ ⟨Nat.zero_le _, Nat.zero_le _⟩ (s_m_in c 0 127 (i64_to ⟨by omega, by omega⟩) (by decide) (by decide)) ?_
    intro r σ' hr; rw [hr.1, hr.2]; clear hr
    refine e_ifI (pc' := 19) (t := 22) dX11_write_16 (by decide) rfl ⟨by first | omega | (split <;> omega), by first | omega | (split <;> omega)⟩ (fun (c4_2 : ((if 0 ≤ c ∧ c ≤ 127 then 1 else 0) : Int) ≠ 0) => ?_) (fun (c4_2 : ¬ (((if 0 ≤ c ∧ c ≤ 127 then 1 else 0) : Int) ≠ 0)) => ?_)
    · have c4_2n : 0 ≤ c ∧ c ≤ 127 := Classical.byContradiction (fun q => absurd (if_neg q : (if 0 ≤ c ∧ c ≤ 127 then (1 : Int) else 0) = 0) (by have := c4_2; omega))
      have htu := ht u (by omega) (by omega)
      refine e_aload_n (pc' := 23) dX11_write_22 rfl rfl ?_
      refine e_getR (pc' := 26) dX11_write_23 rfl f_11_7 h_88 rfl ?_
      refine e_bipush (pc' := 28) (z := 57) dX11_write_26 rfl (by decide) ?_
      refine e_bipush (pc' := 30) (z := 41) dX11_write_28 rfl (by decide) ?_
      refine e_iload_n (pc' := 31) dX11_write_30 rfl rfl ?_
      refine e_imul (pc' := 32) dX11_write_31 rfl ?_
      refine e_iadd (pc' := 33) dX11_write_32 rfl ?_
      refine e_iald (pc' := 34) (v := (σ.1 89 (57 + (41 * u)))) dX11_write_33 rfl h_89 (by decide) (by omega) (by omega) rfl ?_
      refine e_istore_n (pc' := 35) (L' := [some (rv 88), some (iv u), some (iv c), some (iv (σ.1 89 (57 + (41 * u))))]) dX11_write_34 rfl (by decide) rfl ?_
      refine e_iload_n (pc' := 36) dX11_write_35 rfl rfl ?_
      refine e_bipush (pc' := 38) (z := 40) dX11_write_36 rfl (by decide) ?_
      refine e_icmpI (pc' := 41) (t := 44) dX11_write_38 (by decide) rfl ⟨by first | omega | (split <;> omega), by first | omega | (split <;> omega)⟩ ⟨by omega, by omega⟩ (fun (c6_3 : ((σ.1 89 (57 + (41 * u))) : Int) ≠ 40) => ?_) (fun (c6_3 : ¬ (((σ.1 89 (57 + (41 * u))) : Int) ≠ 40)) => ?_)
      · refine e_aload_n (pc' := 45) dX11_write_44 rfl rfl ?_
        refine e_getR (pc' := 48) dX11_write_45 rfl f_11_7 h_88 rfl ?_
        refine e_bipush (pc' := 50) (z := 57) dX11_write_48 rfl (by decide) ?_
        refine e_bipush (pc' := 52) (z := 41) dX11_write_50 rfl (by decide) ?_
        refine e_iload_n (pc' := 53) dX11_write_52 rfl rfl ?_
        refine e_imul (pc' := 54) dX11_write_53 rfl ?_
        refine e_iadd (pc' := 55) dX11_write_54 rfl ?_
        refine e_iconst (pc' := 56) dX11_write_55 rfl ?_
        refine e_iadd (pc' := 57) dX11_write_56 rfl ?_
        refine e_iload_n (pc' := 58) dX11_write_57 rfl rfl ?_
        refine e_iadd (pc' := 59) dX11_write_58 rfl ?_
        refine e_iload_n (pc' := 60) dX11_write_59 rfl rfl ?_
        refine e_iast (pc' := 61) dX11_write_60 rfl h_89 (by decide) (by omega) (by omega) ?_
        refine e_aload_n (pc' := 62) dX11_write_61 rfl rfl ?_
        refine e_getR (pc' := 65) dX11_write_62 rfl f_11_7 h_88 rfl ?_
        refine e_bipush (pc' := 67) (z := 57) dX11_write_65 rfl (by decide) ?_
        refine e_bipush (pc' := 69) (z := 41) dX11_write_67 rfl (by decide) ?_
        refine e_iload_n (pc' := 70) dX11_write_69 rfl rfl ?_
        refine e_imul (pc' := 71) dX11_write_70 rfl ?_
        refine e_iadd (pc' := 72) dX11_write_71 rfl ?_
        refine e_iload_n (pc' := 73) dX11_write_72 rfl rfl ?_
        refine e_iconst (pc' := 74) dX11_write_73 rfl ?_
        refine e_iadd (pc' := 75) dX11_write_74 rfl ?_
        refine e_iast (pc' := 76) dX11_write_75 rfl h_89 (by decide) (by omega) (by omega) ?_
        refine e_iload_n (pc' := 77) dX11_write_76 rfl rfl ?_
        refine e_iconst (pc' := 78) dX11_write_77 rfl ?_
        refine e_iadd (pc' := 79) dX11_write_78 rfl ?_
        exact e_iret dX11_write_79 rfl ⟨rfl, Nat.le_refl _⟩ ⟨_, rfl, by dsimp only; rw [if_pos (by omega), if_neg (by omega)]; exact ⟨rfl, by rw [upI_fn, upI_fn], (by repeat (first | exact Fr.rf | assumption | (refine fr_I ?_ (by decide)) | (refine fr_J ?_ (by decide)) | (refine fr_C ?_ (by decide))))⟩⟩
      · refine e_bipush (pc' := 43) (z := (-4)) dX11_write_41 rfl (by decide) ?_
        exact e_iret dX11_write_43 rfl ⟨rfl, Nat.le_refl _⟩ ⟨_, rfl, by dsimp only; first | (rw [if_neg (by omega)]; exact ⟨rfl, rfl⟩) | (rw [if_pos (by omega), if_pos (by omega)]; exact ⟨rfl, rfl⟩)⟩
    · have c4_2n : ¬ (0 ≤ c ∧ c ≤ 127) := fun q => absurd (if_pos q : (if 0 ≤ c ∧ c ≤ 127 then (1 : Int) else 0) = 1) (by have := c4_2; omega)
      refine e_bipush (pc' := 21) (z := (-2)) dX11_write_19 rfl (by decide) ?_
      exact e_iret dX11_write_21 rfl ⟨rfl, Nat.le_refl _⟩ ⟨_, rfl, by dsimp only; first | (rw [if_neg (by omega)]; exact ⟨rfl, rfl⟩) | (rw [if_pos (by omega), if_pos (by omega)]; exact ⟨rfl, rfl⟩)⟩

set_option maxHeartbeats 4000000 in
set_option maxRecDepth 100000 in
theorem s_m_erase {X : AX} {d : Nat} {σ : SG} (u : Int) (hu : rg u) : Ev X 0 0 (d + 2) mX11_erase 0 [some (rv 88), some (iv u), none] [] σ (QI (fun r σ' => if 0 ≤ u ∧ u ≤ 2 then (r = σ.1 89 (57 + 41 * u) ∧ σ'.1 89 = updA (σ.1 89) (57 + 41 * u) 0 ∧ Fr [89] σ σ') else (r = -2 ∧ σ' = σ))) := by
  obtain ⟨hu1, hu2⟩ := id hu
  refine e_iload_n (pc' := 1) dX11_erase_0 rfl rfl ?_
  refine e_cs1i (pc' := 4) dX11_erase_1 rfl pn_11_108 k_11_108 (Nat.le_of_ble_eq_true rfl) rfl rfl ⟨rfl, rfl⟩ ⟨Nat.zero_le _, Nat.zero_le _⟩ (s_m_isRule u ⟨by omega, by omega⟩) ?_
  intro r σ' hr; rw [hr.1, hr.2]; clear hr
  refine e_ifI (pc' := 7) (t := 10) dX11_erase_4 (by decide) rfl ⟨by first | omega | (split <;> omega), by first | omega | (split <;> omega)⟩ (fun (c2_1 : ((if 0 ≤ u ∧ u ≤ 2 then 1 else 0) : Int) ≠ 0) => ?_) (fun (c2_1 : ¬ (((if 0 ≤ u ∧ u ≤ 2 then 1 else 0) : Int) ≠ 0)) => ?_)
  · have c2_1n : 0 ≤ u ∧ u ≤ 2 := Classical.byContradiction (fun q => absurd (if_neg q : (if 0 ≤ u ∧ u ≤ 2 then (1 : Int) else 0) = 0) (by have := c2_1; omega))
    refine e_aload_n (pc' := 11) dX11_erase_10 rfl rfl ?_
    refine e_getR (pc' := 14) dX11_erase_11 rfl f_11_7 h_88 rfl ?_
    refine e_bipush (pc' := 16) (z := 57) dX11_erase_14 rfl (by decide) ?_
    refine e_bipush (pc' := 18) (z := 41) dX11_erase_16 rfl (by decide) ?_
    refine e_iload_n (pc' := 19) dX11_erase_18 rfl rfl ?_
    refine e_imul (pc' := 20) dX11_erase_19 rfl ?_
    refine e_iadd (pc' := 21) dX11_erase_20 rfl ?_
    refine e_iald (pc' := 22) (v := (σ.1 89 (57 + (41 * u)))) dX11_erase_21 rfl h_89 (by decide) (by omega) (by omega) rfl ?_
    refine e_istore_n (pc' := 23) (L' := [some (rv 88), some (iv u), some (iv (σ.1 89 (57 + (41 * u))))]) dX11_erase_22 rfl (by decide) rfl ?_
    refine e_aload_n (pc' := 24) dX11_erase_23 rfl rfl ?_
    refine e_getR (pc' := 27) dX11_erase_24 rfl f_11_7 h_88 rfl ?_
    refine e_bipush (pc' := 29) (z := 57) dX11_erase_27 rfl (by decide) ?_
    refine e_bipush (pc' := 31) (z := 41) dX11_erase_29 rfl (by decide) ?_
    refine e_iload_n (pc' := 32) dX11_erase_31 rfl rfl ?_
    refine e_imul (pc' := 33) dX11_erase_32 rfl ?_
    refine e_iadd (pc' := 34) dX11_erase_33 rfl ?_
    refine e_iconst (pc' := 35) dX11_erase_34 rfl ?_
    refine e_iast (pc' := 36) dX11_erase_35 rfl h_89 (by decide) (by omega) (by omega) ?_
    refine e_iload_n (pc' := 37) dX11_erase_36 rfl rfl ?_
    exact e_iret dX11_erase_37 rfl ⟨rfl, Nat.le_refl _⟩ ⟨_, rfl, by dsimp only; rw [if_pos (by omega)]; exact ⟨rfl, by rw [upI_fn], (by repeat (first | exact Fr.rf | assumption | (refine fr_I ?_ (by decide)) | (refine fr_J ?_ (by decide)) | (refine fr_C ?_ (by decide))))⟩⟩
  · have c2_1n : ¬ (0 ≤ u ∧ u ≤ 2) := fun q => absurd (if_pos q : (if 0 ≤ u ∧ u ≤ 2 then (1 : Int) else 0) = 1) (by have := c2_1; omega)
    refine e_bipush (pc' := 9) (z := (-2)) dX11_erase_7 rfl (by decide) ?_
    exact e_iret dX11_erase_9 rfl ⟨rfl, Nat.le_refl _⟩ ⟨_, rfl, by dsimp only; rw [if_neg (by omega)]; exact ⟨rfl, rfl⟩⟩

def rmS (s : Int) : Int := if s = 124 then 1 else if s = 38 then 2 else if s = 60 ∨ s = 62 ∨ s = 61 then 3 else if s = 43 ∨ s = 45 then 4 else if s = 42 ∨ s = 47 then 5 else 0
theorem rmS_rg (s : Int) : 0 ≤ rmS s ∧ rmS s ≤ 5 := by
  unfold rmS
  repeat' split
  all_goals decide
def nmS (c : Int) : Int := if c = 115 then 0 else if c = 110 then 1 else if c = 109 then 2 else if c = 108 then 3 else if c = 114 then 4 else -1

set_option maxHeartbeats 4000000 in
set_option maxRecDepth 100000 in
theorem s_m_rank {X : AX} {d : Nat} {σ : SG} (v : Int) (hv : rg v) : Ev X 0 0 d mX11_rank 0 [some (iv v)] [] σ (QI (fun r σ' => σ' = σ ∧ r = rmS v)) := by
  obtain ⟨hv1, hv2⟩ := hv
  refine e_iload_n (pc' := 1) dX11_rank_0 rfl rfl ?_
  by_cases k2_1 : v = 38
  · refine e_lookup (pc' := 86) (off := 85) dX11_rank_1 ⟨by omega, by omega⟩ (by decide) (by rw [k2_1]; rfl) (by decide) ?_
    refine e_iconst (pc' := 87) dX11_rank_86 rfl ?_
    exact e_iret dX11_rank_87 rfl ⟨rfl, Nat.le_refl _⟩ ⟨_, rfl, rfl, by unfold rmS; (repeat (first | (rw [if_pos (by omega)]) | (rw [if_neg (by omega)])))⟩
  by_cases k2_2 : v = 42
  · refine e_lookup (pc' := 92) (off := 91) dX11_rank_1 ⟨by omega, by omega⟩ (by decide) (by rw [k2_2]; rfl) (by decide) ?_
    refine e_iconst (pc' := 93) dX11_rank_92 rfl ?_
    exact e_iret dX11_rank_93 rfl ⟨rfl, Nat.le_refl _⟩ ⟨_, rfl, rfl, by unfold rmS; (repeat (first | (rw [if_pos (by omega)]) | (rw [if_neg (by omega)])))⟩
  by_cases k2_3 : v = 43
  · refine e_lookup (pc' := 90) (off := 89) dX11_rank_1 ⟨by omega, by omega⟩ (by decide) (by rw [k2_3]; rfl) (by decide) ?_
    refine e_iconst (pc' := 91) dX11_rank_90 rfl ?_
    exact e_iret dX11_rank_91 rfl ⟨rfl, Nat.le_refl _⟩ ⟨_, rfl, rfl, by unfold rmS; (repeat (first | (rw [if_pos (by omega)]) | (rw [if_neg (by omega)])))⟩
  by_cases k2_4 : v = 45
  · refine e_lookup (pc' := 90) (off := 89) dX11_rank_1 ⟨by omega, by omega⟩ (by decide) (by rw [k2_4]; rfl) (by decide) ?_
    refine e_iconst (pc' := 91) dX11_rank_90 rfl ?_
    exact e_iret dX11_rank_91 rfl ⟨rfl, Nat.le_refl _⟩ ⟨_, rfl, rfl, by unfold rmS; (repeat (first | (rw [if_pos (by omega)]) | (rw [if_neg (by omega)])))⟩
  by_cases k2_5 : v = 47
  · refine e_lookup (pc' := 92) (off := 91) dX11_rank_1 ⟨by omega, by omega⟩ (by decide) (by rw [k2_5]; rfl) (by decide) ?_
    refine e_iconst (pc' := 93) dX11_rank_92 rfl ?_
    exact e_iret dX11_rank_93 rfl ⟨rfl, Nat.le_refl _⟩ ⟨_, rfl, rfl, by unfold rmS; (repeat (first | (rw [if_pos (by omega)]) | (rw [if_neg (by omega)])))⟩
  by_cases k2_6 : v = 60
  · refine e_lookup (pc' := 88) (off := 87) dX11_rank_1 ⟨by omega, by omega⟩ (by decide) (by rw [k2_6]; rfl) (by decide) ?_
    refine e_iconst (pc' := 89) dX11_rank_88 rfl ?_
    exact e_iret dX11_rank_89 rfl ⟨rfl, Nat.le_refl _⟩ ⟨_, rfl, rfl, by unfold rmS; (repeat (first | (rw [if_pos (by omega)]) | (rw [if_neg (by omega)])))⟩
  by_cases k2_7 : v = 61
  · refine e_lookup (pc' := 88) (off := 87) dX11_rank_1 ⟨by omega, by omega⟩ (by decide) (by rw [k2_7]; rfl) (by decide) ?_
    refine e_iconst (pc' := 89) dX11_rank_88 rfl ?_
    exact e_iret dX11_rank_89 rfl ⟨rfl, Nat.le_refl _⟩ ⟨_, rfl, rfl, by unfold rmS; (repeat (first | (rw [if_pos (by omega)]) | (rw [if_neg (by omega)])))⟩
  by_cases k2_8 : v = 62
  · refine e_lookup (pc' := 88) (off := 87) dX11_rank_1 ⟨by omega, by omega⟩ (by decide) (by rw [k2_8]; rfl) (by decide) ?_
    refine e_iconst (pc' := 89) dX11_rank_88 rfl ?_
    exact e_iret dX11_rank_89 rfl ⟨rfl, Nat.le_refl _⟩ ⟨_, rfl, rfl, by unfold rmS; (repeat (first | (rw [if_pos (by omega)]) | (rw [if_neg (by omega)])))⟩
  by_cases k2_9 : v = 124
  · refine e_lookup (pc' := 84) (off := 83) dX11_rank_1 ⟨by omega, by omega⟩ (by decide) (by rw [k2_9]; rfl) (by decide) ?_
    refine e_iconst (pc' := 85) dX11_rank_84 rfl ?_
    exact e_iret dX11_rank_85 rfl ⟨rfl, Nat.le_refl _⟩ ⟨_, rfl, rfl, by unfold rmS; (repeat (first | (rw [if_pos (by omega)]) | (rw [if_neg (by omega)])))⟩
  refine e_lookup (pc' := 94) (off := 93) dX11_rank_1 ⟨by omega, by omega⟩ (by decide) (lk_none _ _ _ (by simp only [List.mem_cons, List.not_mem_nil, or_false, forall_eq_or_imp, forall_eq, ne_eq]; omega)) (by decide) ?_
  refine e_iconst (pc' := 95) dX11_rank_94 rfl ?_
  exact e_iret dX11_rank_95 rfl ⟨rfl, Nat.le_refl _⟩ ⟨_, rfl, rfl, by unfold rmS; (repeat (first | (rw [if_pos (by omega)]) | (rw [if_neg (by omega)])))⟩

set_option maxHeartbeats 4000000 in
set_option maxRecDepth 100000 in
theorem s_m_nameOf {X : AX} {d : Nat} {σ : SG} (v : Int) (hv : rg v) : Ev X 0 0 d mX11_nameOf 0 [some (iv v)] [] σ (QI (fun r σ' => σ' = σ ∧ r = nmS v)) := by
  obtain ⟨hv1, hv2⟩ := hv
  refine e_iload_n (pc' := 1) dX11_nameOf_0 rfl rfl ?_
  refine e_bipush (pc' := 3) (z := 115) dX11_nameOf_1 rfl (by decide) ?_
  refine e_icmpI (pc' := 6) (t := 10) dX11_nameOf_3 (by decide) rfl ⟨by omega, by omega⟩ ⟨by omega, by omega⟩ (fun (c2_1 : (v : Int) ≠ 115) => ?_) (fun (c2_1 : ¬ ((v : Int) ≠ 115)) => ?_)
  · refine e_iload_n (pc' := 11) dX11_nameOf_10 rfl rfl ?_
    refine e_bipush (pc' := 13) (z := 110) dX11_nameOf_11 rfl (by decide) ?_
    refine e_icmpI (pc' := 16) (t := 20) dX11_nameOf_13 (by decide) rfl ⟨by omega, by omega⟩ ⟨by omega, by omega⟩ (fun (c4_2 : (v : Int) ≠ 110) => ?_) (fun (c4_2 : ¬ ((v : Int) ≠ 110)) => ?_)
    · refine e_iload_n (pc' := 21) dX11_nameOf_20 rfl rfl ?_
      refine e_bipush (pc' := 23) (z := 109) dX11_nameOf_21 rfl (by decide) ?_
      refine e_icmpI (pc' := 26) (t := 30) dX11_nameOf_23 (by decide) rfl ⟨by omega, by omega⟩ ⟨by omega, by omega⟩ (fun (c6_3 : (v : Int) ≠ 109) => ?_) (fun (c6_3 : ¬ ((v : Int) ≠ 109)) => ?_)
      · refine e_iload_n (pc' := 31) dX11_nameOf_30 rfl rfl ?_
        refine e_bipush (pc' := 33) (z := 108) dX11_nameOf_31 rfl (by decide) ?_
        refine e_icmpI (pc' := 36) (t := 40) dX11_nameOf_33 (by decide) rfl ⟨by omega, by omega⟩ ⟨by omega, by omega⟩ (fun (c8_4 : (v : Int) ≠ 108) => ?_) (fun (c8_4 : ¬ ((v : Int) ≠ 108)) => ?_)
        · refine e_iload_n (pc' := 41) dX11_nameOf_40 rfl rfl ?_
          refine e_bipush (pc' := 43) (z := 114) dX11_nameOf_41 rfl (by decide) ?_
          refine e_icmpI (pc' := 46) (t := 50) dX11_nameOf_43 (by decide) rfl ⟨by omega, by omega⟩ ⟨by omega, by omega⟩ (fun (c10_5 : (v : Int) ≠ 114) => ?_) (fun (c10_5 : ¬ ((v : Int) ≠ 114)) => ?_)
          · refine e_iconst (pc' := 51) dX11_nameOf_50 rfl ?_
            exact e_iret dX11_nameOf_51 rfl ⟨rfl, Nat.le_refl _⟩ ⟨_, rfl, rfl, by unfold nmS; (repeat (first | (rw [if_pos (by omega)]) | (rw [if_neg (by omega)])))⟩
          · refine e_iconst (pc' := 47) dX11_nameOf_46 rfl ?_
            refine e_goto (pc' := 51) dX11_nameOf_47 (by decide) ?_
            exact e_iret dX11_nameOf_51 rfl ⟨rfl, Nat.le_refl _⟩ ⟨_, rfl, rfl, by unfold nmS; (repeat (first | (rw [if_pos (by omega)]) | (rw [if_neg (by omega)])))⟩
        · refine e_iconst (pc' := 37) dX11_nameOf_36 rfl ?_
          refine e_goto (pc' := 51) dX11_nameOf_37 (by decide) ?_
          exact e_iret dX11_nameOf_51 rfl ⟨rfl, Nat.le_refl _⟩ ⟨_, rfl, rfl, by unfold nmS; (repeat (first | (rw [if_pos (by omega)]) | (rw [if_neg (by omega)])))⟩
      · refine e_iconst (pc' := 27) dX11_nameOf_26 rfl ?_
        refine e_goto (pc' := 51) dX11_nameOf_27 (by decide) ?_
        exact e_iret dX11_nameOf_51 rfl ⟨rfl, Nat.le_refl _⟩ ⟨_, rfl, rfl, by unfold nmS; (repeat (first | (rw [if_pos (by omega)]) | (rw [if_neg (by omega)])))⟩
    · refine e_iconst (pc' := 17) dX11_nameOf_16 rfl ?_
      refine e_goto (pc' := 51) dX11_nameOf_17 (by decide) ?_
      exact e_iret dX11_nameOf_51 rfl ⟨rfl, Nat.le_refl _⟩ ⟨_, rfl, rfl, by unfold nmS; (repeat (first | (rw [if_pos (by omega)]) | (rw [if_neg (by omega)])))⟩
  · refine e_iconst (pc' := 7) dX11_nameOf_6 rfl ?_
    refine e_goto (pc' := 51) dX11_nameOf_7 (by decide) ?_
    exact e_iret dX11_nameOf_51 rfl ⟨rfl, Nat.le_refl _⟩ ⟨_, rfl, rfl, by unfold nmS; (repeat (first | (rw [if_pos (by omega)]) | (rw [if_neg (by omega)])))⟩

set_option maxHeartbeats 4000000 in
set_option maxRecDepth 100000 in
theorem s_m_textLong {X : AX} {d : Nat} {σ : SG} (u : Int) (hu : 0 ≤ u ∧ u ≤ 2) (h3 : σ.1 88 3 = u) : Ev X 0 0 d mX11_textLong 0 [some (rv 88)] [] σ (QI (fun r σ' => σ' = σ ∧ r = σ.1 89 (57 + 41 * u))) := by
  refine e_aload_n (pc' := 1) dX11_textLong_0 rfl rfl ?_
  refine e_getR (pc' := 4) dX11_textLong_1 rfl f_11_7 h_88 rfl ?_
  refine e_bipush (pc' := 6) (z := 57) dX11_textLong_4 rfl (by decide) ?_
  refine e_bipush (pc' := 8) (z := 41) dX11_textLong_6 rfl (by decide) ?_
  refine e_aload_n (pc' := 9) dX11_textLong_8 rfl rfl ?_
  refine e_getI (pc' := 12) (v := u) dX11_textLong_9 rfl f_11_113 h_88 rfl h3 ?_
  refine e_imul (pc' := 13) dX11_textLong_12 rfl ?_
  refine e_iadd (pc' := 14) dX11_textLong_13 rfl ?_
  refine e_iald (pc' := 15) (v := (σ.1 89 (57 + (41 * u)))) dX11_textLong_14 rfl h_89 (by decide) (by omega) (by omega) rfl ?_
  exact e_iret dX11_textLong_15 rfl ⟨rfl, Nat.le_refl _⟩ ⟨_, rfl, rfl, rfl⟩

set_option maxHeartbeats 4000000 in
set_option maxRecDepth 100000 in
theorem s_m_charAt {X : AX} {d : Nat} {σ : SG} (u : Int) (hu : 0 ≤ u ∧ u ≤ 2) (h3 : σ.1 88 3 = u) (k : Int) (hk : 0 ≤ k ∧ k < 40) : Ev X 0 0 d mX11_charAt 0 [some (rv 88), some (iv k)] [] σ (QI (fun r σ' => σ' = σ ∧ r = σ.1 89 (57 + 41 * u + 1 + k))) := by
  refine e_aload_n (pc' := 1) dX11_charAt_0 rfl rfl ?_
  refine e_getR (pc' := 4) dX11_charAt_1 rfl f_11_7 h_88 rfl ?_
  refine e_bipush (pc' := 6) (z := 57) dX11_charAt_4 rfl (by decide) ?_
  refine e_bipush (pc' := 8) (z := 41) dX11_charAt_6 rfl (by decide) ?_
  refine e_aload_n (pc' := 9) dX11_charAt_8 rfl rfl ?_
  refine e_getI (pc' := 12) (v := u) dX11_charAt_9 rfl f_11_113 h_88 rfl h3 ?_
  refine e_imul (pc' := 13) dX11_charAt_12 rfl ?_
  refine e_iadd (pc' := 14) dX11_charAt_13 rfl ?_
  refine e_iconst (pc' := 15) dX11_charAt_14 rfl ?_
  refine e_iadd (pc' := 16) dX11_charAt_15 rfl ?_
  refine e_iload_n (pc' := 17) dX11_charAt_16 rfl rfl ?_
  refine e_iadd (pc' := 18) dX11_charAt_17 rfl ?_
  refine e_iald (pc' := 19) (v := (σ.1 89 (((57 + (41 * u)) + 1) + k))) dX11_charAt_18 rfl h_89 (by decide) (by omega) (by omega) rfl ?_
  exact e_iret dX11_charAt_19 rfl ⟨rfl, Nat.le_refl _⟩ ⟨_, rfl, rfl, rfl⟩
