theorem hot_cg {σ τ : SG} {s : Nat} (e : SameSc σ τ s) (g w : Int) : gfS τ s w - τ.1 (s + 5) (g * 3 + w) = gfS σ s w - σ.1 (s + 5) (g * 3 + w) := by rw [gfS_cg e, e (s + 5) (by omega) (by omega)]
theorem wbS_cg {σ τ : SG} {s : Nat} (ho : ScOK σ s) (e : SameSc σ τ s) (g w x : Int) : wbS τ s g w x = wbS σ s g w x := by
  unfold wbS
  rw [e s (by omega) (by omega), e (s + 5) (by omega) (by omega), tlR_cg ho e]
theorem bvS_cg {σ τ : SG} {s : Nat} (ho : ScOK σ s) (e : SameSc σ τ s) (g a b c : Int) : bvS τ s g a b c = bvS σ s g a b c := by
  unfold bvS
  rw [e s (by omega) (by omega), e (s + 1) (by omega) (by omega)]
  have h1 : (fun w => wbS τ s g w (rowW a b c w)) = (fun w => wbS σ s g w (rowW a b c w)) := funext fun w => wbS_cg ho e g w _
  rw [h1]
  exact hvO_cg e (by rw [hot_cg e]) (by rw [hot_cg e]) (by rw [hot_cg e]) _ _
theorem ktO_cg {σ τ : SG} {s : Nat} (e : SameSc σ τ s) (g : Int) : ktO τ s g = ktO σ s g := by unfold ktO; rw [e (s + 1) (by omega) (by omega), e (s + 5) (by omega) (by omega)]
theorem bfS_cg {σ τ : SG} {s : Nat} (ho : ScOK σ s) (e : SameSc σ τ s) (g : Int) : bfS τ s g = bfS σ s g := by
  unfold bfS
  rw [e s (by omega) (by omega), ktO_cg e]
  have h1 : wdS τ s = wdS σ s := funext fun w => wdS_cg ho e w
  rw [h1]
  exact hvO_cg e (by rw [gfS_cg e]) (by rw [gfS_cg e]) (by rw [gfS_cg e]) _ _
/-- a giver's choice can be worked out -/
def ChOK (σ : SG) (s : Nat) (g : Int) : Prop := (∀ w, 0 ≤ w → w < 3 → 0 ≤ gfS σ s w - σ.1 (s + 5) (g * 3 + w) ∧ gfS σ s w - σ.1 (s + 5) (g * 3 + w) ≤ 100) ∧ (∀ x y z, 0 ≤ x → 0 ≤ y → 0 ≤ z → x + y + z ≤ σ.1 (s + 1) g → 0 ≤ bvS σ s g x y z ∧ bvS σ s g x y z ≤ 1000000) ∧ 0 ≤ bfS σ s g ∧ bfS σ s g ≤ 1000000
theorem ChOK.cg {σ τ : SG} {s : Nat} {g : Int} (h : ChOK σ s g) (ho : ScOK σ s) (e : SameSc σ τ s) : ChOK τ s g := by
  refine ⟨fun w a b => by rw [hot_cg e]; exact h.1 w a b, fun x y z a b c d => ?_, by rw [bfS_cg ho e]; exact h.2.2⟩
  rw [bvS_cg ho e]
  exact h.2.1 x y z a b c (by rw [← e (s + 1) (by omega) (by omega)]; exact d)
theorem fd_first {f : Int → BR → BR} {t t' : BR} (h : f 0 t = f 0 t') : ∀ n, fdI f (n + 1) t = fdI f (n + 1) t'
  | 0 => h
  | n + 1 => by
    show f ((n + 1 : Nat) : Int) (fdI f (n + 1) t) = f ((n + 1 : Nat) : Int) (fdI f (n + 1) t')
    rw [fd_first h n]
theorem fdZ_first {f : Int → BR → BR} {t t' : BR} (h : f 0 t = f 0 t') {i : Int} (hi : 0 ≤ i) : fdZ f (i + 1) t = fdZ f (i + 1) t' := by
  unfold fdZ
  rw [show (i + 1).toNat = i.toNat + 1 by omega]
  exact fd_first h _
/-- what the row was before doesn't matter -/
theorem bsS_any {V : Int → Int → Int → Int} {wk co : Int} (hV : 0 ≤ V 0 0 0) (hc : 0 ≤ co) (a b c : Int) : bsS V wk co (-1, a, b, c) = bsS V wk co (-1, 0, 0, 0) := by
  have h2 : 0 ≤ tp2 wk co 0 0 := by unfold tp2; split <;> omega
  have h1 : 0 ≤ tp1 wk co 0 := by unfold tp1; split <;> omega
  have h0 : 0 ≤ tp0 wk co := by unfold tp0; split <;> omega
  have e : bsC V 0 0 0 (-1, a, b, c) = bsC V 0 0 0 (-1, 0, 0, 0) := by
    unfold bsC updB
    rw [if_pos (by show (-1 : Int) < V 0 0 0; omega), if_pos (by show (-1 : Int) < V 0 0 0; omega)]
  have e1 : bsB V wk co 0 0 (-1, a, b, c) = bsB V wk co 0 0 (-1, 0, 0, 0) := fdZ_first e h2
  have e2 : bsA V wk co 0 (-1, a, b, c) = bsA V wk co 0 (-1, 0, 0, 0) := fdZ_first e1 h1
  exact fdZ_first e2 h0
/-- BEST of a giver: how much, and the row -/
def beS (σ : SG) (s : Nat) (g : Int) : BR := bsS (bvS σ s g) (σ.1 s 7) (σ.1 (s + 1) g) (-1, 0, 0, 0)
theorem beS_cg {σ τ : SG} {s : Nat} (ho : ScOK σ s) (e : SameSc σ τ s) (g : Int) : beS τ s g = beS σ s g := by
  unfold beS
  rw [e s (by omega) (by omega), e (s + 1) (by omega) (by omega), show bvS τ s g = bvS σ s g from funext fun a => funext fun b => funext fun c => bvS_cg ho e g a b c]
theorem fdI_rg {f : Int → BR → BR} (h : ∀ i t, -1 ≤ t.1 ∧ t.1 ≤ 1000000 → 0 ≤ i → -1 ≤ (f i t).1 ∧ (f i t).1 ≤ 1000000) (n : Nat) (t : BR) (ht : -1 ≤ t.1 ∧ t.1 ≤ 1000000) : -1 ≤ (fdI f n t).1 ∧ (fdI f n t).1 ≤ 1000000 := by
  induction n with
  | zero => exact ht
  | succ n ih => exact h n _ ih (by omega)

theorem s_best_1 {X : AX} {d : Nat} {σ : SG} (ho : ScOK σ 1) (g : Int) (hg : 0 ≤ g ∧ g < 5) (hc : ChOK σ 1 g) : Ev X 0 0 (d + 4) mX0_choose 0 [some (rv 43), some (rv 1), some (iv g), none, none, none, none, none, none, none] [] σ (QV (fun σ' => brOf σ' = beS σ 1 g ∧ σ'.1 43 5 = bfS σ 1 g ∧ Fr [37, 38, 39, 40, 41, 42, 43, 44, 45, 46] σ σ')) := by
  have hco : 0 ≤ σ.1 2 g ∧ σ.1 2 g ≤ 12 := ho.2.2.2.2.2.2.2.2.2.2.1 g hg.1 hg.2
  refine Ev.imp (s_choose_1 ho g hg hc.1 (fun x y z a b c e => by have := hc.2.1 x y z a b c e; exact ⟨by omega, by omega⟩)) ?_
  rintro v σ' ⟨h1, h2, h3⟩
  exact ⟨h1, by rw [h2, bsS_any (hc.2.1 0 0 0 (by decide) (by decide) (by decide) (by show 0 + 0 + 0 ≤ σ.1 2 g; omega)).1 hco.1]; rfl, h3⟩

theorem s_best_17 {X : AX} {d : Nat} {σ : SG} (ho : ScOK σ 17) (g : Int) (hg : 0 ≤ g ∧ g < 5) (hc : ChOK σ 17 g) : Ev X 0 0 (d + 4) mX0_choose 0 [some (rv 43), some (rv 17), some (iv g), none, none, none, none, none, none, none] [] σ (QV (fun σ' => brOf σ' = beS σ 17 g ∧ σ'.1 43 5 = bfS σ 17 g ∧ Fr [37, 38, 39, 40, 41, 42, 43, 44, 45, 46] σ σ')) := by
  have hco : 0 ≤ σ.1 18 g ∧ σ.1 18 g ≤ 12 := ho.2.2.2.2.2.2.2.2.2.2.1 g hg.1 hg.2
  refine Ev.imp (s_choose_17 ho g hg hc.1 (fun x y z a b c e => by have := hc.2.1 x y z a b c e; exact ⟨by omega, by omega⟩)) ?_
  rintro v σ' ⟨h1, h2, h3⟩
  exact ⟨h1, by rw [h2, bsS_any (hc.2.1 0 0 0 (by decide) (by decide) (by decide) (by show 0 + 0 + 0 ≤ σ.1 18 g; omega)).1 hco.1]; rfl, h3⟩

set_option maxHeartbeats 4000000 in
set_option maxRecDepth 100000 in
theorem s_amount {X : AX} {d : Nat} {σ : SG} (ho : ScOK σ 1) (w k : Int) (hw : rg w) (hk : rg k) : Ev X 0 0 (d + 4) mX10_amount 0 [some (rv 0), some (iv w), some (iv k)] [] σ (QI (fun r σ' => r = (if 0 ≤ w ∧ w < σ.1 1 7 then (if k = 0 then gfS σ 1 w else if k = 1 then wdS σ 1 w else if k = 2 then adS (σ.1 1 11) (σ.1 1 10) (wdS σ 1) w else if k = 3 then gfS σ 1 w + adS (σ.1 1 11) (σ.1 1 10) (wdS σ 1) w else -2) else -2) ∧ Fr [37, 38, 39, 40, 41, 42] σ σ')) := by
  obtain ⟨hw1, hw2⟩ := hw
  obtain ⟨hk1, hk2⟩ := hk
  have h6 := ho.1
  have h7 := ho.2.1
  refine e_aload_n (pc' := 1) dX10_amount_0 rfl rfl ?_
  refine e_iload_n (pc' := 2) dX10_amount_1 rfl rfl ?_
  refine e_cv1i (pc' := 5) dX10_amount_2 rfl k_10_158 h_0 rfl (Nat.le_of_ble_eq_true rfl) rfl rfl ⟨rfl, rfl⟩ ⟨Nat.zero_le _, Nat.zero_le _⟩ (s_isWork w ⟨by omega, by omega⟩ ho.2.1) ?_
  intro r σ' hr; rw [hr.1, hr.2]; clear hr
  refine e_ifI (pc' := 8) (t := 11) dX10_amount_5 (by decide) rfl ⟨by first | omega | (split <;> omega), by first | omega | (split <;> omega)⟩ (fun (c2_1 : ((if 0 ≤ w ∧ w < σ.1 1 7 then 1 else 0) : Int) ≠ 0) => ?_) (fun (c2_1 : ¬ (((if 0 ≤ w ∧ w < σ.1 1 7 then 1 else 0) : Int) ≠ 0)) => ?_)
  · have c2_1n : 0 ≤ w ∧ w < σ.1 1 7 := Classical.byContradiction (fun q => absurd (if_neg q : (if 0 ≤ w ∧ w < σ.1 1 7 then (1 : Int) else 0) = 0) (by have := c2_1; omega))
    refine e_aload_n (pc' := 12) dX10_amount_11 rfl rfl ?_
    refine e_getR (pc' := 15) dX10_amount_12 rfl f_10_46 h_0 rfl ?_
    refine e_aload_n (pc' := 16) dX10_amount_15 rfl rfl ?_
    refine e_getR (pc' := 19) dX10_amount_16 rfl f_10_10 h_0 rfl ?_
    refine e_cv1v (pc' := 22) dX10_amount_19 rfl k_10_161 h_39 rfl (Nat.le_of_ble_eq_true rfl) rfl rfl ⟨rfl, rfl⟩ ⟨Nat.zero_le _, Nat.zero_le _⟩ (s_fill_1 ho) ?_
    rintro τ1 ⟨hL1, hG1⟩
    have ho1 : ScOK τ1 1 := ho.cg (sameSc_1 hG1)
    refine e_iload_n (pc' := 23) dX10_amount_22 rfl rfl ?_
    by_cases k4_2 : k = 0
    · refine e_table (pc' := 52) (off := 29) dX10_amount_23 ⟨by first | omega | (split <;> omega), by first | omega | (split <;> omega)⟩  (by rw [k4_2]; rfl) (by decide) ?_
      refine e_aload_n (pc' := 53) dX10_amount_52 rfl rfl ?_
      refine e_getR (pc' := 56) dX10_amount_53 rfl f_10_46 h_0 rfl ?_
      refine e_getR (pc' := 59) dX10_amount_56 rfl f_10_165 h_39 rfl ?_
      refine e_iload_n (pc' := 60) dX10_amount_59 rfl rfl ?_
      refine e_iald (pc' := 61) (v := (τ1.1 40 w)) dX10_amount_60 rfl h_40 (by decide) (by omega) (by omega) rfl ?_
      exact e_iret dX10_amount_61 rfl ⟨rfl, Nat.le_refl _⟩ ⟨_, rfl, by have q := hL1.1 w (by omega) (by omega); (first | rw [q.1] | skip); (first | rw [q.2.1] | skip); (first | rw [q.2.2] | skip); (repeat (first | (rw [if_pos (by omega)]) | (rw [if_neg (by omega)]))), hG1⟩
    by_cases k4_3 : k = 1
    · refine e_table (pc' := 62) (off := 39) dX10_amount_23 ⟨by first | omega | (split <;> omega), by first | omega | (split <;> omega)⟩  (by rw [k4_3]; rfl) (by decide) ?_
      refine e_aload_n (pc' := 63) dX10_amount_62 rfl rfl ?_
      refine e_getR (pc' := 66) dX10_amount_63 rfl f_10_46 h_0 rfl ?_
      refine e_getR (pc' := 69) dX10_amount_66 rfl f_10_168 h_39 rfl ?_
      refine e_iload_n (pc' := 70) dX10_amount_69 rfl rfl ?_
      refine e_iald (pc' := 71) (v := (τ1.1 41 w)) dX10_amount_70 rfl h_41 (by decide) (by omega) (by omega) rfl ?_
      exact e_iret dX10_amount_71 rfl ⟨rfl, Nat.le_refl _⟩ ⟨_, rfl, by have q := hL1.1 w (by omega) (by omega); (first | rw [q.1] | skip); (first | rw [q.2.1] | skip); (first | rw [q.2.2] | skip); (repeat (first | (rw [if_pos (by omega)]) | (rw [if_neg (by omega)]))), hG1⟩
    by_cases k4_4 : k = 2
    · refine e_table (pc' := 72) (off := 49) dX10_amount_23 ⟨by first | omega | (split <;> omega), by first | omega | (split <;> omega)⟩  (by rw [k4_4]; rfl) (by decide) ?_
      refine e_aload_n (pc' := 73) dX10_amount_72 rfl rfl ?_
      refine e_getR (pc' := 76) dX10_amount_73 rfl f_10_46 h_0 rfl ?_
      refine e_getR (pc' := 79) dX10_amount_76 rfl f_10_171 h_39 rfl ?_
      refine e_iload_n (pc' := 80) dX10_amount_79 rfl rfl ?_
      refine e_iald (pc' := 81) (v := (τ1.1 42 w)) dX10_amount_80 rfl h_42 (by decide) (by omega) (by omega) rfl ?_
      exact e_iret dX10_amount_81 rfl ⟨rfl, Nat.le_refl _⟩ ⟨_, rfl, by have q := hL1.1 w (by omega) (by omega); (first | rw [q.1] | skip); (first | rw [q.2.1] | skip); (first | rw [q.2.2] | skip); (repeat (first | (rw [if_pos (by omega)]) | (rw [if_neg (by omega)]))), hG1⟩
    by_cases k4_5 : k = 3
    · refine e_table (pc' := 82) (off := 59) dX10_amount_23 ⟨by first | omega | (split <;> omega), by first | omega | (split <;> omega)⟩  (by rw [k4_5]; rfl) (by decide) ?_
      refine e_aload_n (pc' := 83) dX10_amount_82 rfl rfl ?_
      refine e_getR (pc' := 86) dX10_amount_83 rfl f_10_46 h_0 rfl ?_
      refine e_getR (pc' := 89) dX10_amount_86 rfl f_10_165 h_39 rfl ?_
      refine e_iload_n (pc' := 90) dX10_amount_89 rfl rfl ?_
      refine e_iald (pc' := 91) (v := (τ1.1 40 w)) dX10_amount_90 rfl h_40 (by decide) (by omega) (by omega) rfl ?_
      refine e_aload_n (pc' := 92) dX10_amount_91 rfl rfl ?_
      refine e_getR (pc' := 95) dX10_amount_92 rfl f_10_46 h_0 rfl ?_
      refine e_getR (pc' := 98) dX10_amount_95 rfl f_10_171 h_39 rfl ?_
      refine e_iload_n (pc' := 99) dX10_amount_98 rfl rfl ?_
      refine e_iald (pc' := 100) (v := (τ1.1 42 w)) dX10_amount_99 rfl h_42 (by decide) (by omega) (by omega) rfl ?_
      refine e_iadd (pc' := 101) dX10_amount_100 rfl ?_
      exact e_iret dX10_amount_101 rfl ⟨rfl, Nat.le_refl _⟩ ⟨_, rfl, by have q := hL1.1 w (by omega) (by omega); (first | rw [q.1] | skip); (first | rw [q.2.1] | skip); (first | rw [q.2.2] | skip); (repeat (first | (rw [if_pos (by omega)]) | (rw [if_neg (by omega)]))), hG1⟩
    refine e_table (pc' := 102) (off := 79) dX10_amount_23 ⟨by first | omega | (split <;> omega), by first | omega | (split <;> omega)⟩  (by rw [if_pos (by omega)]) (by decide) ?_
    refine e_bipush (pc' := 104) (z := (-2)) dX10_amount_102 rfl (by decide) ?_
    exact e_iret dX10_amount_104 rfl ⟨rfl, Nat.le_refl _⟩ ⟨_, rfl, by have q := hL1.1 w (by omega) (by omega); (first | rw [q.1] | skip); (first | rw [q.2.1] | skip); (first | rw [q.2.2] | skip); (repeat (first | (rw [if_pos (by omega)]) | (rw [if_neg (by omega)]))), hG1⟩
  · have c2_1n : ¬ (0 ≤ w ∧ w < σ.1 1 7) := fun q => absurd (if_pos q : (if 0 ≤ w ∧ w < σ.1 1 7 then (1 : Int) else 0) = 1) (by have := c2_1; omega)
    refine e_bipush (pc' := 10) (z := (-2)) dX10_amount_8 rfl (by decide) ?_
    exact e_iret dX10_amount_10 rfl ⟨rfl, Nat.le_refl _⟩ ⟨_, rfl, by (repeat (first | (rw [if_pos (by omega)]) | (rw [if_neg (by omega)]))), Fr.rf⟩

set_option maxHeartbeats 4000000 in
set_option maxRecDepth 100000 in
theorem s_isShort {X : AX} {d : Nat} {σ : SG} (ho : ScOK σ 1) : Ev X 0 0 (d + 4) mX10_isShort 0 [some (rv 0)] [] σ (QI (fun r σ' => r = (if wdS σ 1 0 + wdS σ 1 1 + wdS σ 1 2 ≤ σ.1 1 10 then 0 else 1) ∧ Fr [37, 38, 39, 40, 41, 42] σ σ')) := by
  refine e_aload_n (pc' := 1) dX10_isShort_0 rfl rfl ?_
  refine e_getR (pc' := 4) dX10_isShort_1 rfl f_10_46 h_0 rfl ?_
  refine e_aload_n (pc' := 5) dX10_isShort_4 rfl rfl ?_
  refine e_getR (pc' := 8) dX10_isShort_5 rfl f_10_10 h_0 rfl ?_
  refine e_cv1v (pc' := 11) dX10_isShort_8 rfl k_10_161 h_39 rfl (Nat.le_of_ble_eq_true rfl) rfl rfl ⟨rfl, rfl⟩ ⟨Nat.zero_le _, Nat.zero_le _⟩ (s_fill_1 ho) ?_
  rintro τ1 ⟨hL1, hG1⟩
  have ho1 : ScOK τ1 1 := ho.cg (sameSc_1 hG1)
  refine e_aload_n (pc' := 12) dX10_isShort_11 rfl rfl ?_
  refine e_getR (pc' := 15) dX10_isShort_12 rfl f_10_46 h_0 rfl ?_
  refine e_getI (pc' := 18) (v := (τ1.1 39 4)) dX10_isShort_15 rfl f_10_174 h_39 rfl rfl ?_
  refine e_ternI (J := 26) (pc' := 21) (t := 25) dX10_isShort_18 (by decide) rfl ⟨by rw [hL1.2]; split <;> omega, by rw [hL1.2]; split <;> omega⟩ dX10_isShort_21 dX10_isShort_22 (by decide) dX10_isShort_25 rfl ?_
  exact e_iret dX10_isShort_26 rfl ⟨rfl, Nat.le_refl _⟩ ⟨_, rfl, by rw [hL1.2]; by_cases hq : wdS σ 1 0 + wdS σ 1 1 + wdS σ 1 2 ≤ σ.1 1 10 <;> simp [hq, tsI], hG1⟩

set_option maxHeartbeats 4000000 in
set_option maxRecDepth 100000 in
theorem s_has {X : AX} {d : Nat} {σ : SG} (ho : ScOK σ 1) (g : Int) (hg : rg g) : Ev X 0 0 (d + 4) mX10_has 0 [some (rv 0), some (iv g)] [] σ (QI (fun r σ' => r = (if g = -1 then smI (fun g => bfS σ 1 g) (σ.1 1 6) else if 0 ≤ g ∧ g < σ.1 1 6 then bfS σ 1 g else -2) ∧ Fr [37, 38, 39, 40, 41, 42] σ σ')) := by
  obtain ⟨hg1, hg2⟩ := hg
  have h6 := ho.1
  have h7 := ho.2.1
  refine e_iload_n (pc' := 1) dX10_has_0 rfl rfl ?_
  refine e_iconst (pc' := 2) dX10_has_1 rfl ?_
  refine e_icmpI (pc' := 5) (t := 16) dX10_has_2 (by decide) rfl ⟨by first | omega | (split <;> omega), by first | omega | (split <;> omega)⟩ ⟨by omega, by omega⟩ (fun (c2_1 : (g : Int) = (-1)) => ?_) (fun (c2_1 : ¬ ((g : Int) = (-1))) => ?_)
  · refine e_aload_n (pc' := 17) dX10_has_16 rfl rfl ?_
    refine e_getR (pc' := 20) dX10_has_17 rfl f_10_46 h_0 rfl ?_
    refine e_aload_n (pc' := 21) dX10_has_20 rfl rfl ?_
    refine e_getR (pc' := 24) dX10_has_21 rfl f_10_10 h_0 rfl ?_
    refine e_cv1v (pc' := 27) dX10_has_24 rfl k_10_161 h_39 rfl (Nat.le_of_ble_eq_true rfl) rfl rfl ⟨rfl, rfl⟩ ⟨Nat.zero_le _, Nat.zero_le _⟩ (s_fill_1 ho) ?_
    rintro τ1 ⟨hL1, hG1⟩
    have ho1 : ScOK τ1 1 := ho.cg (sameSc_1 hG1)
    refine e_iload_n (pc' := 28) dX10_has_27 rfl rfl ?_
    refine e_iconst (pc' := 29) dX10_has_28 rfl ?_
    refine e_icmpI (pc' := 32) (t := 46) dX10_has_29 (by decide) rfl ⟨by first | omega | (split <;> omega), by first | omega | (split <;> omega)⟩ ⟨by omega, by omega⟩ (fun (c4_2 : (g : Int) ≠ (-1)) => ?_) (fun (c4_2 : ¬ ((g : Int) ≠ (-1))) => ?_)
    · refine e_aload_n (pc' := 47) dX10_has_46 rfl rfl ?_
      refine e_getR (pc' := 50) dX10_has_47 rfl f_10_46 h_0 rfl ?_
      refine e_aload_n (pc' := 51) dX10_has_50 rfl rfl ?_
      refine e_getR (pc' := 54) dX10_has_51 rfl f_10_10 h_0 rfl ?_
      refine e_iload_n (pc' := 55) dX10_has_54 rfl rfl ?_
      refine e_aload_n (pc' := 56) dX10_has_55 rfl rfl ?_
      refine e_getR (pc' := 59) dX10_has_56 rfl f_10_10 h_0 rfl ?_
      refine e_iload_n (pc' := 60) dX10_has_59 rfl rfl ?_
      refine e_cv1i (pc' := 63) dX10_has_60 rfl k_10_185 h_1 rfl (Nat.le_of_ble_eq_true rfl) rfl rfl ⟨rfl, rfl⟩ ⟨Nat.zero_le _, Nat.zero_le _⟩ (s_keptBy_1 g (by omega) (by omega)) ?_
      intro r σ' hr; rw [hr.1, hr.2]; clear hr σ'
      refine e_cv3i (pc' := 66) dX10_has_63 rfl k_10_188 h_39 rfl (Nat.le_of_ble_eq_true rfl) rfl rfl ⟨rfl, rfl⟩ ⟨Nat.zero_le _, Nat.zero_le _⟩ (s_haveOf_1 ho1 (LgI_q ho hL1 (gfS_rg ho)) g (τ1.1 2 g - gv (τ1.1 6) g) ⟨by omega, by omega⟩) ?_
      intro r σ' hr; rw [hr.1, hr.2]; clear hr σ'
      rw [show hvO τ1 1 (fun w => τ1.1 40 w + τ1.1 42 w) (τ1.1 2 g - gv (τ1.1 6) g) g = bfS σ 1 g from hv_bf (sameSc_1 hG1) hL1]
      exact e_iret dX10_has_66 rfl ⟨rfl, Nat.le_refl _⟩ ⟨_, rfl, by first | (exfalso; omega) | (repeat (first | (rw [if_pos (by omega)]) | (rw [if_neg (by omega)]))), hG1⟩
    · refine e_aload_n (pc' := 33) dX10_has_32 rfl rfl ?_
      refine e_getR (pc' := 36) dX10_has_33 rfl f_10_46 h_0 rfl ?_
      refine e_aload_n (pc' := 37) dX10_has_36 rfl rfl ?_
      refine e_getR (pc' := 40) dX10_has_37 rfl f_10_10 h_0 rfl ?_
      refine e_cv1i (pc' := 43) dX10_has_40 rfl k_10_181 h_39 rfl (Nat.le_of_ble_eq_true rfl) rfl rfl ⟨rfl, rfl⟩ ⟨Nat.zero_le _, Nat.zero_le _⟩ (s_allHave_1 ho1 (LgI_q ho hL1 (gfS_rg ho))) ?_
      intro r σ' hr; rw [hr.1, hr.2]; clear hr σ'
      rw [show (fun g => hvO τ1 1 (fun w => τ1.1 40 w + τ1.1 42 w) (ktO τ1 1 g) g) = (fun g => bfS σ 1 g) from funext fun g => hv_bf (sameSc_1 hG1) hL1, (hG1 1 (by decide)).1]
      refine e_goto (pc' := 66) dX10_has_43 (by decide) ?_
      exact e_iret dX10_has_66 rfl ⟨rfl, Nat.le_refl _⟩ ⟨_, rfl, by first | (exfalso; omega) | (repeat (first | (rw [if_pos (by omega)]) | (rw [if_neg (by omega)]))), hG1⟩
  · refine e_aload_n (pc' := 6) dX10_has_5 rfl rfl ?_
    refine e_iload_n (pc' := 7) dX10_has_6 rfl rfl ?_
    refine e_cv1i (pc' := 10) dX10_has_7 rfl k_10_178 h_0 rfl (Nat.le_of_ble_eq_true rfl) rfl rfl ⟨rfl, rfl⟩ ⟨Nat.zero_le _, Nat.zero_le _⟩ (s_isGiver g ⟨by omega, by omega⟩ ho.1) ?_
    intro r σ' hr; rw [hr.1, hr.2]; clear hr
    refine e_ifI (pc' := 13) (t := 16) dX10_has_10 (by decide) rfl ⟨by first | omega | (split <;> omega), by first | omega | (split <;> omega)⟩ (fun (c4_2 : ((if 0 ≤ g ∧ g < σ.1 1 6 then 1 else 0) : Int) ≠ 0) => ?_) (fun (c4_2 : ¬ (((if 0 ≤ g ∧ g < σ.1 1 6 then 1 else 0) : Int) ≠ 0)) => ?_)
    · have c4_2n : 0 ≤ g ∧ g < σ.1 1 6 := Classical.byContradiction (fun q => absurd (if_neg q : (if 0 ≤ g ∧ g < σ.1 1 6 then (1 : Int) else 0) = 0) (by have := c4_2; omega))
      refine e_aload_n (pc' := 17) dX10_has_16 rfl rfl ?_
      refine e_getR (pc' := 20) dX10_has_17 rfl f_10_46 h_0 rfl ?_
      refine e_aload_n (pc' := 21) dX10_has_20 rfl rfl ?_
      refine e_getR (pc' := 24) dX10_has_21 rfl f_10_10 h_0 rfl ?_
      refine e_cv1v (pc' := 27) dX10_has_24 rfl k_10_161 h_39 rfl (Nat.le_of_ble_eq_true rfl) rfl rfl ⟨rfl, rfl⟩ ⟨Nat.zero_le _, Nat.zero_le _⟩ (s_fill_1 ho) ?_
      rintro τ1 ⟨hL1, hG1⟩
      have ho1 : ScOK τ1 1 := ho.cg (sameSc_1 hG1)
      refine e_iload_n (pc' := 28) dX10_has_27 rfl rfl ?_
      refine e_iconst (pc' := 29) dX10_has_28 rfl ?_
      refine e_icmpI (pc' := 32) (t := 46) dX10_has_29 (by decide) rfl ⟨by first | omega | (split <;> omega), by first | omega | (split <;> omega)⟩ ⟨by omega, by omega⟩ (fun (c6_3 : (g : Int) ≠ (-1)) => ?_) (fun (c6_3 : ¬ ((g : Int) ≠ (-1))) => ?_)
      · refine e_aload_n (pc' := 47) dX10_has_46 rfl rfl ?_
        refine e_getR (pc' := 50) dX10_has_47 rfl f_10_46 h_0 rfl ?_
        refine e_aload_n (pc' := 51) dX10_has_50 rfl rfl ?_
        refine e_getR (pc' := 54) dX10_has_51 rfl f_10_10 h_0 rfl ?_
        refine e_iload_n (pc' := 55) dX10_has_54 rfl rfl ?_
        refine e_aload_n (pc' := 56) dX10_has_55 rfl rfl ?_
        refine e_getR (pc' := 59) dX10_has_56 rfl f_10_10 h_0 rfl ?_
        refine e_iload_n (pc' := 60) dX10_has_59 rfl rfl ?_
        refine e_cv1i (pc' := 63) dX10_has_60 rfl k_10_185 h_1 rfl (Nat.le_of_ble_eq_true rfl) rfl rfl ⟨rfl, rfl⟩ ⟨Nat.zero_le _, Nat.zero_le _⟩ (s_keptBy_1 g (by omega) (by omega)) ?_
        intro r σ' hr; rw [hr.1, hr.2]; clear hr σ'
        refine e_cv3i (pc' := 66) dX10_has_63 rfl k_10_188 h_39 rfl (Nat.le_of_ble_eq_true rfl) rfl rfl ⟨rfl, rfl⟩ ⟨Nat.zero_le _, Nat.zero_le _⟩ (s_haveOf_1 ho1 (LgI_q ho hL1 (gfS_rg ho)) g (τ1.1 2 g - gv (τ1.1 6) g) ⟨by omega, by omega⟩) ?_
        intro r σ' hr; rw [hr.1, hr.2]; clear hr σ'
        rw [show hvO τ1 1 (fun w => τ1.1 40 w + τ1.1 42 w) (τ1.1 2 g - gv (τ1.1 6) g) g = bfS σ 1 g from hv_bf (sameSc_1 hG1) hL1]
        exact e_iret dX10_has_66 rfl ⟨rfl, Nat.le_refl _⟩ ⟨_, rfl, by first | (exfalso; omega) | (repeat (first | (rw [if_pos (by omega)]) | (rw [if_neg (by omega)]))), hG1⟩
      · refine e_aload_n (pc' := 33) dX10_has_32 rfl rfl ?_
        refine e_getR (pc' := 36) dX10_has_33 rfl f_10_46 h_0 rfl ?_
        refine e_aload_n (pc' := 37) dX10_has_36 rfl rfl ?_
        refine e_getR (pc' := 40) dX10_has_37 rfl f_10_10 h_0 rfl ?_
        refine e_cv1i (pc' := 43) dX10_has_40 rfl k_10_181 h_39 rfl (Nat.le_of_ble_eq_true rfl) rfl rfl ⟨rfl, rfl⟩ ⟨Nat.zero_le _, Nat.zero_le _⟩ (s_allHave_1 ho1 (LgI_q ho hL1 (gfS_rg ho))) ?_
        intro r σ' hr; rw [hr.1, hr.2]; clear hr σ'
        rw [show (fun g => hvO τ1 1 (fun w => τ1.1 40 w + τ1.1 42 w) (ktO τ1 1 g) g) = (fun g => bfS σ 1 g) from funext fun g => hv_bf (sameSc_1 hG1) hL1, (hG1 1 (by decide)).1]
        refine e_goto (pc' := 66) dX10_has_43 (by decide) ?_
        exact e_iret dX10_has_66 rfl ⟨rfl, Nat.le_refl _⟩ ⟨_, rfl, by first | (exfalso; omega) | (repeat (first | (rw [if_pos (by omega)]) | (rw [if_neg (by omega)]))), hG1⟩
    · have c4_2n : ¬ (0 ≤ g ∧ g < σ.1 1 6) := fun q => absurd (if_pos q : (if 0 ≤ g ∧ g < σ.1 1 6 then (1 : Int) else 0) = 1) (by have := c4_2; omega)
      refine e_bipush (pc' := 15) (z := (-2)) dX10_has_13 rfl (by decide) ?_
      exact e_iret dX10_has_15 rfl ⟨rfl, Nat.le_refl _⟩ ⟨_, rfl, by first | (exfalso; omega) | (repeat (first | (rw [if_pos (by omega)]) | (rw [if_neg (by omega)]))), Fr.rf⟩

set_option maxHeartbeats 4000000 in
set_option maxRecDepth 100000 in
theorem s_best {X : AX} {d : Nat} {σ : SG} (ho : ScOK σ 1) (hch : ∀ g, 0 ≤ g → g < σ.1 1 6 → ChOK σ 1 g) (g k : Int) (hg : rg g) (hk : rg k) : Ev X 0 0 (d + 5) mX10_best 0 [some (rv 0), some (iv g), some (iv k)] [] σ (QI (fun r σ' => r = (if (0 ≤ g ∧ g < σ.1 1 6) ∧ (k = -1 ∨ (0 ≤ k ∧ k < σ.1 1 7)) then (if k = -1 then (beS σ 1 g).1 else rowW (beS σ 1 g).2.1 (beS σ 1 g).2.2.1 (beS σ 1 g).2.2.2 k) else -10) ∧ Fr [37, 38, 39, 40, 41, 42, 43, 44, 45, 46] σ σ')) := by
  obtain ⟨hg1, hg2⟩ := hg
  obtain ⟨hk1, hk2⟩ := hk
  have h6 := ho.1
  have h7 := ho.2.1
  refine e_aload_n (pc' := 1) dX10_best_0 rfl rfl ?_
  refine e_iload_n (pc' := 2) dX10_best_1 rfl rfl ?_
  refine e_cv1i (pc' := 5) dX10_best_2 rfl k_10_178 h_0 rfl (Nat.le_of_ble_eq_true rfl) rfl rfl ⟨rfl, rfl⟩ ⟨Nat.zero_le _, Nat.zero_le _⟩ (s_isGiver g ⟨by omega, by omega⟩ ho.1) ?_
  intro r σ' hr; rw [hr.1, hr.2]; clear hr
  refine e_ifI (pc' := 8) (t := 21) dX10_best_5 (by decide) rfl ⟨by first | omega | (split <;> omega), by first | omega | (split <;> omega)⟩ (fun (c2_1 : ((if 0 ≤ g ∧ g < σ.1 1 6 then 1 else 0) : Int) = 0) => ?_) (fun (c2_1 : ¬ (((if 0 ≤ g ∧ g < σ.1 1 6 then 1 else 0) : Int) = 0)) => ?_)
  · have c2_1n : ¬ (0 ≤ g ∧ g < σ.1 1 6) := fun q => absurd (if_pos q : (if 0 ≤ g ∧ g < σ.1 1 6 then (1 : Int) else 0) = 1) (by have := c2_1; omega)
    refine e_bipush (pc' := 23) (z := (-10)) dX10_best_21 rfl (by decide) ?_
    exact e_iret dX10_best_23 rfl ⟨rfl, Nat.le_refl _⟩ ⟨_, rfl, by rw [if_neg (by omega)], Fr.rf⟩
  · have c2_1n : 0 ≤ g ∧ g < σ.1 1 6 := Classical.byContradiction (fun q => absurd (if_neg q : (if 0 ≤ g ∧ g < σ.1 1 6 then (1 : Int) else 0) = 0) (by have := c2_1; omega))
    refine e_iload_n (pc' := 9) dX10_best_8 rfl rfl ?_
    refine e_iconst (pc' := 10) dX10_best_9 rfl ?_
    refine e_icmpI (pc' := 13) (t := 24) dX10_best_10 (by decide) rfl ⟨by first | omega | (split <;> omega), by first | omega | (split <;> omega)⟩ ⟨by omega, by omega⟩ (fun (c4_2 : (k : Int) = (-1)) => ?_) (fun (c4_2 : ¬ ((k : Int) = (-1))) => ?_)
    · refine e_aload_n (pc' := 25) dX10_best_24 rfl rfl ?_
      refine e_getR (pc' := 28) dX10_best_25 rfl f_10_55 h_0 rfl ?_
      refine e_aload_n (pc' := 29) dX10_best_28 rfl rfl ?_
      refine e_getR (pc' := 32) dX10_best_29 rfl f_10_10 h_0 rfl ?_
      refine e_iload_n (pc' := 33) dX10_best_32 rfl rfl ?_
      refine e_cv2v (pc' := 36) dX10_best_33 rfl k_10_192 h_43 rfl (Nat.le_of_ble_eq_true rfl) rfl rfl ⟨rfl, rfl⟩ ⟨Nat.zero_le _, Nat.zero_le _⟩ (s_best_1 ho g ⟨by omega, by omega⟩ (hch g (by omega) (by omega))) ?_
      rintro τ1 ⟨hb1, h51, hG1⟩
      refine e_iload_n (pc' := 37) dX10_best_36 rfl rfl ?_
      refine e_iconst (pc' := 38) dX10_best_37 rfl ?_
      refine e_icmpI (pc' := 41) (t := 51) dX10_best_38 (by decide) rfl ⟨by first | omega | (split <;> omega), by first | omega | (split <;> omega)⟩ ⟨by omega, by omega⟩ (fun (c6_3 : (k : Int) ≠ (-1)) => ?_) (fun (c6_3 : ¬ ((k : Int) ≠ (-1))) => ?_)
      · refine e_aload_n (pc' := 52) dX10_best_51 rfl rfl ?_
        refine e_getR (pc' := 55) dX10_best_52 rfl f_10_55 h_0 rfl ?_
        refine e_getR (pc' := 58) dX10_best_55 rfl f_10_199 h_43 rfl ?_
        refine e_iload_n (pc' := 59) dX10_best_58 rfl rfl ?_
        refine e_iald (pc' := 60) (v := (τ1.1 46 k)) dX10_best_59 rfl h_46 (by decide) (by omega) (by omega) rfl ?_
        exact e_iret dX10_best_60 rfl ⟨rfl, Nat.le_refl _⟩ ⟨_, rfl, by rw [if_pos (by omega), ← hb1]; first | (rw [if_pos (by omega)]; rfl) | (rw [if_neg (by omega)]; unfold rowW; have : k = 0 ∨ k = 1 ∨ k = 2 := (by omega); rcases this with rfl | rfl | rfl <;> rfl), hG1⟩
      · refine e_aload_n (pc' := 42) dX10_best_41 rfl rfl ?_
        refine e_getR (pc' := 45) dX10_best_42 rfl f_10_55 h_0 rfl ?_
        refine e_getI (pc' := 48) (v := (τ1.1 43 4)) dX10_best_45 rfl f_10_196 h_43 rfl rfl ?_
        refine e_goto (pc' := 60) dX10_best_48 (by decide) ?_
        exact e_iret dX10_best_60 rfl ⟨rfl, Nat.le_refl _⟩ ⟨_, rfl, by rw [if_pos (by omega), ← hb1]; first | (rw [if_pos (by omega)]; rfl) | (rw [if_neg (by omega)]; unfold rowW; have : k = 0 ∨ k = 1 ∨ k = 2 := (by omega); rcases this with rfl | rfl | rfl <;> rfl), hG1⟩
    · refine e_aload_n (pc' := 14) dX10_best_13 rfl rfl ?_
      refine e_iload_n (pc' := 15) dX10_best_14 rfl rfl ?_
      refine e_cv1i (pc' := 18) dX10_best_15 rfl k_10_158 h_0 rfl (Nat.le_of_ble_eq_true rfl) rfl rfl ⟨rfl, rfl⟩ ⟨Nat.zero_le _, Nat.zero_le _⟩ (s_isWork k ⟨by omega, by omega⟩ ho.2.1) ?_
      intro r σ' hr; rw [hr.1, hr.2]; clear hr
      refine e_ifI (pc' := 21) (t := 24) dX10_best_18 (by decide) rfl ⟨by first | omega | (split <;> omega), by first | omega | (split <;> omega)⟩ (fun (c6_3 : ((if 0 ≤ k ∧ k < σ.1 1 7 then 1 else 0) : Int) ≠ 0) => ?_) (fun (c6_3 : ¬ (((if 0 ≤ k ∧ k < σ.1 1 7 then 1 else 0) : Int) ≠ 0)) => ?_)
      · have c6_3n : 0 ≤ k ∧ k < σ.1 1 7 := Classical.byContradiction (fun q => absurd (if_neg q : (if 0 ≤ k ∧ k < σ.1 1 7 then (1 : Int) else 0) = 0) (by have := c6_3; omega))
        refine e_aload_n (pc' := 25) dX10_best_24 rfl rfl ?_
        refine e_getR (pc' := 28) dX10_best_25 rfl f_10_55 h_0 rfl ?_
        refine e_aload_n (pc' := 29) dX10_best_28 rfl rfl ?_
        refine e_getR (pc' := 32) dX10_best_29 rfl f_10_10 h_0 rfl ?_
        refine e_iload_n (pc' := 33) dX10_best_32 rfl rfl ?_
        refine e_cv2v (pc' := 36) dX10_best_33 rfl k_10_192 h_43 rfl (Nat.le_of_ble_eq_true rfl) rfl rfl ⟨rfl, rfl⟩ ⟨Nat.zero_le _, Nat.zero_le _⟩ (s_best_1 ho g ⟨by omega, by omega⟩ (hch g (by omega) (by omega))) ?_
        rintro τ1 ⟨hb1, h51, hG1⟩
        refine e_iload_n (pc' := 37) dX10_best_36 rfl rfl ?_
        refine e_iconst (pc' := 38) dX10_best_37 rfl ?_
        refine e_icmpI (pc' := 41) (t := 51) dX10_best_38 (by decide) rfl ⟨by first | omega | (split <;> omega), by first | omega | (split <;> omega)⟩ ⟨by omega, by omega⟩ (fun (c8_4 : (k : Int) ≠ (-1)) => ?_) (fun (c8_4 : ¬ ((k : Int) ≠ (-1))) => ?_)
        · refine e_aload_n (pc' := 52) dX10_best_51 rfl rfl ?_
          refine e_getR (pc' := 55) dX10_best_52 rfl f_10_55 h_0 rfl ?_
          refine e_getR (pc' := 58) dX10_best_55 rfl f_10_199 h_43 rfl ?_
          refine e_iload_n (pc' := 59) dX10_best_58 rfl rfl ?_
          refine e_iald (pc' := 60) (v := (τ1.1 46 k)) dX10_best_59 rfl h_46 (by decide) (by omega) (by omega) rfl ?_
          exact e_iret dX10_best_60 rfl ⟨rfl, Nat.le_refl _⟩ ⟨_, rfl, by rw [if_pos (by omega), ← hb1]; first | (rw [if_pos (by omega)]; rfl) | (rw [if_neg (by omega)]; unfold rowW; have : k = 0 ∨ k = 1 ∨ k = 2 := (by omega); rcases this with rfl | rfl | rfl <;> rfl), hG1⟩
        · refine e_aload_n (pc' := 42) dX10_best_41 rfl rfl ?_
          refine e_getR (pc' := 45) dX10_best_42 rfl f_10_55 h_0 rfl ?_
          refine e_getI (pc' := 48) (v := (τ1.1 43 4)) dX10_best_45 rfl f_10_196 h_43 rfl rfl ?_
          refine e_goto (pc' := 60) dX10_best_48 (by decide) ?_
          exact e_iret dX10_best_60 rfl ⟨rfl, Nat.le_refl _⟩ ⟨_, rfl, by rw [if_pos (by omega), ← hb1]; first | (rw [if_pos (by omega)]; rfl) | (rw [if_neg (by omega)]; unfold rowW; have : k = 0 ∨ k = 1 ∨ k = 2 := (by omega); rcases this with rfl | rfl | rfl <;> rfl), hG1⟩
      · have c6_3n : ¬ (0 ≤ k ∧ k < σ.1 1 7) := fun q => absurd (if_pos q : (if 0 ≤ k ∧ k < σ.1 1 7 then (1 : Int) else 0) = 1) (by have := c6_3; omega)
        refine e_bipush (pc' := 23) (z := (-10)) dX10_best_21 rfl (by decide) ?_
        exact e_iret dX10_best_23 rfl ⟨rfl, Nat.le_refl _⟩ ⟨_, rfl, by rw [if_neg (by omega)], Fr.rf⟩

/-- the first giver who would have more, by how much -/
def rsS (f : Int → Int) (k : Int) : Nat → Int → Int
  | 0, _ => -1
  | n + 1, i => if 0 < f i then (if k = 0 then i else f i) else rsS f k n (i + 1)
theorem fdZ_rg {f : Int → BR → BR} (h : ∀ i t, -1 ≤ t.1 ∧ t.1 ≤ 1000000 → 0 ≤ i → -1 ≤ (f i t).1 ∧ (f i t).1 ≤ 1000000) (n : Nat) (t : BR) (ht : -1 ≤ t.1 ∧ t.1 ≤ 1000000) : -1 ≤ (fdI f n t).1 ∧ (fdI f n t).1 ≤ 1000000 := fdI_rg h n t ht

set_option maxHeartbeats 4000000 in
set_option maxRecDepth 100000 in
theorem l_rest {X : AX} {d : Nat} {σ : SG} (ho : ScOK σ 1) (hch : ∀ g, 0 ≤ g → g < σ.1 1 6 → ChOK σ 1 g) (hbr : ∀ g, 0 ≤ g → g < σ.1 1 6 → -1 ≤ (beS σ 1 g).1 ∧ (beS σ 1 g).1 ≤ 1000000) (k : Int) (hk : 0 ≤ k ∧ k ≤ 1) : ∀ (n : Nat) (i : Int) (τ : SG) (x3 : Option AV), 0 ≤ i → i + n = σ.1 1 6 → rsS (fun g => (beS σ 1 g).1 - bfS σ 1 g) k (σ.1 1 6).toNat 0 = rsS (fun g => (beS σ 1 g).1 - bfS σ 1 g) k n i → Fr [37, 38, 39, 40, 41, 42, 43, 44, 45, 46] σ τ → Ev X 0 0 (d + 5) mX10_rest 13 [some (rv 0), some (iv k), some (iv i), x3] [] τ (QI (fun r σ' => r = rsS (fun g => (beS σ 1 g).1 - bfS σ 1 g) k (σ.1 1 6).toNat 0 ∧ Fr [37, 38, 39, 40, 41, 42, 43, 44, 45, 46] σ σ')) := by
  intro n
  induction n using Nat.strongRecOn with
  | ind n ih =>
  intro i τ x3 hi hn hI hF
  have h6 := ho.1
  have hoτ : ScOK τ 1 := ho.cg (sameScA_1 hF)
  refine e_iload_n (pc' := 14) dX10_rest_13 rfl rfl ?_
  refine e_aload_n (pc' := 15) dX10_rest_14 rfl rfl ?_
  refine e_getR (pc' := 18) dX10_rest_15 rfl f_10_10 h_0 rfl ?_
  refine e_getI (pc' := 21) (v := (σ.1 1 6)) dX10_rest_18 rfl f_10_93 h_1 rfl ((congrFun (hF 1 (by decide)).1 6).trans rfl) ?_
  refine e_icmpI (pc' := 24) (t := 72) dX10_rest_21 (by decide) rfl ⟨by omega, by omega⟩ ⟨by omega, by omega⟩ (fun (c2_1 : (σ.1 1 6) ≤ (i : Int)) => ?_) (fun (c2_1 : ¬ ((σ.1 1 6) ≤ (i : Int))) => ?_)
  · refine e_iconst (pc' := 73) dX10_rest_72 rfl ?_
    exact e_iret dX10_rest_73 rfl ⟨rfl, Nat.le_refl _⟩ ⟨_, rfl, by match n, hn, hI with
    | 0, hn, hI => exact hI.symm
    | n + 1, hn, hI => omega, hF⟩
  · refine e_aload_n (pc' := 25) dX10_rest_24 rfl rfl ?_
    refine e_getR (pc' := 28) dX10_rest_25 rfl f_10_55 h_0 rfl ?_
    refine e_aload_n (pc' := 29) dX10_rest_28 rfl rfl ?_
    refine e_getR (pc' := 32) dX10_rest_29 rfl f_10_10 h_0 rfl ?_
    refine e_iload_n (pc' := 33) dX10_rest_32 rfl rfl ?_
    refine e_cv2v (pc' := 36) dX10_rest_33 rfl k_10_192 h_43 rfl (Nat.le_of_ble_eq_true rfl) rfl rfl ⟨rfl, rfl⟩ ⟨Nat.zero_le _, Nat.zero_le _⟩ (s_best_1 hoτ i ⟨by omega, by omega⟩ ((hch i (by omega) (by omega)).cg ho (sameScA_1 hF))) ?_
    rintro τ1 ⟨hb1, h51, hG1⟩
    rw [beS_cg ho (sameScA_1 hF)] at hb1
    rw [bfS_cg ho (sameScA_1 hF)] at h51
    have hm1 : τ1.1 43 4 = (beS σ 1 i).1 := congrArg Prod.fst hb1
    have hrm := hbr i (by omega) (by omega)
    have hrb := (hch i (by omega) (by omega)).2.2
    refine e_aload_n (pc' := 37) dX10_rest_36 rfl rfl ?_
    refine e_getR (pc' := 40) dX10_rest_37 rfl f_10_55 h_0 rfl ?_
    refine e_getI (pc' := 43) (v := ((beS σ 1 i).1)) dX10_rest_40 rfl f_10_196 h_43 rfl hm1 ?_
    refine e_aload_n (pc' := 44) dX10_rest_43 rfl rfl ?_
    refine e_getR (pc' := 47) dX10_rest_44 rfl f_10_55 h_0 rfl ?_
    refine e_getI (pc' := 50) (v := (bfS σ 1 i)) dX10_rest_47 rfl f_10_202 h_43 rfl h51 ?_
    refine e_isub (pc' := 51) dX10_rest_50 rfl ?_
    refine e_istore_n (pc' := 52) (L' := [some (rv 0), some (iv k), some (iv i), some (iv (((beS σ 1 i).1) - (bfS σ 1 i)))]) dX10_rest_51 rfl (by decide) rfl ?_
    refine e_iload_n (pc' := 53) dX10_rest_52 rfl rfl ?_
    refine e_ifI (pc' := 56) (t := 66) dX10_rest_53 (by decide) rfl ⟨by omega, by omega⟩ (fun (c4_2 : ((((beS σ 1 i).1) - (bfS σ 1 i)) : Int) ≤ 0) => ?_) (fun (c4_2 : ¬ (((((beS σ 1 i).1) - (bfS σ 1 i)) : Int) ≤ 0)) => ?_)
    · refine e_iinc (pc' := 69) (L' := [some (rv 0), some (iv k), some (iv (i + 1)), some (iv (((beS σ 1 i).1) - (bfS σ 1 i)))]) dX10_rest_66 rfl rfl (by decide) rfl ?_
      refine e_goto (pc' := 13) dX10_rest_69 (by decide) ?_
      match n, hn, hI with
      | 0, hn, hI => omega
      | n + 1, hn, hI =>
        exact ih n (by omega) _ _ _ (by omega) (by omega) (by rw [hI]; show (if 0 < (beS σ 1 i).1 - bfS σ 1 i then _ else _) = _; rw [if_neg (by omega)]) (hF.tr hG1)
    · refine e_iload_n (pc' := 57) dX10_rest_56 rfl rfl ?_
      refine e_ifI (pc' := 60) (t := 64) dX10_rest_57 (by decide) rfl ⟨by omega, by omega⟩ (fun (c6_3 : (k : Int) ≠ 0) => ?_) (fun (c6_3 : ¬ ((k : Int) ≠ 0)) => ?_)
      · refine e_iload_n (pc' := 65) dX10_rest_64 rfl rfl ?_
        exact e_iret dX10_rest_65 rfl ⟨rfl, Nat.le_refl _⟩ ⟨_, rfl, by match n, hn, hI with
    | 0, hn, hI => omega
    | n + 1, hn, hI => rw [hI]; show _ = (if 0 < (beS σ 1 i).1 - bfS σ 1 i then _ else _); rw [if_pos (by omega)]; first | rw [if_pos (by omega)] | rw [if_neg (by omega)], hF.tr hG1⟩
      · refine e_iload_n (pc' := 61) dX10_rest_60 rfl rfl ?_
        refine e_goto (pc' := 65) dX10_rest_61 (by decide) ?_
        exact e_iret dX10_rest_65 rfl ⟨rfl, Nat.le_refl _⟩ ⟨_, rfl, by match n, hn, hI with
    | 0, hn, hI => omega
    | n + 1, hn, hI => rw [hI]; show _ = (if 0 < (beS σ 1 i).1 - bfS σ 1 i then _ else _); rw [if_pos (by omega)]; first | rw [if_pos (by omega)] | rw [if_neg (by omega)], hF.tr hG1⟩

set_option maxHeartbeats 4000000 in
set_option maxRecDepth 100000 in
theorem s_rest {X : AX} {d : Nat} {σ : SG} (ho : ScOK σ 1) (hch : ∀ g, 0 ≤ g → g < σ.1 1 6 → ChOK σ 1 g) (hbr : ∀ g, 0 ≤ g → g < σ.1 1 6 → -1 ≤ (beS σ 1 g).1 ∧ (beS σ 1 g).1 ≤ 1000000) (k : Int) (hk : rg k) : Ev X 0 0 (d + 5) mX10_rest 0 [some (rv 0), some (iv k), none, none] [] σ (QI (fun r σ' => r = (if 0 ≤ k ∧ k ≤ 1 then rsS (fun g => (beS σ 1 g).1 - bfS σ 1 g) k (σ.1 1 6).toNat 0 else -10) ∧ Fr [37, 38, 39, 40, 41, 42, 43, 44, 45, 46] σ σ')) := by
  obtain ⟨hk1, hk2⟩ := hk
  have h6 := ho.1
  have h7 := ho.2.1
  refine e_iload_n (pc' := 1) dX10_rest_0 rfl rfl ?_
  refine e_iconst (pc' := 2) dX10_rest_1 rfl ?_
  refine e_cs2i (pc' := 5) dX10_rest_2 rfl pn_10_89 k_10_89 (Nat.le_of_ble_eq_true rfl) rfl rfl ⟨rfl, rfl⟩ ⟨Nat.zero_le _, Nat.zero_le _⟩ (s_isWithin k 1 ⟨by omega, by omega⟩ ⟨by omega, by omega⟩) ?_
  intro r σ' hr; rw [hr.1, hr.2]; clear hr
  refine e_ifI (pc' := 8) (t := 11) dX10_rest_5 (by decide) rfl ⟨by first | omega | (split <;> omega), by first | omega | (split <;> omega)⟩ (fun (c2_1 : ((if 0 ≤ k ∧ k ≤ 1 then 1 else 0) : Int) ≠ 0) => ?_) (fun (c2_1 : ¬ (((if 0 ≤ k ∧ k ≤ 1 then 1 else 0) : Int) ≠ 0)) => ?_)
  · have c2_1n : 0 ≤ k ∧ k ≤ 1 := Classical.byContradiction (fun q => absurd (if_neg q : (if 0 ≤ k ∧ k ≤ 1 then (1 : Int) else 0) = 0) (by have := c2_1; omega))
    refine e_iconst (pc' := 12) dX10_rest_11 rfl ?_
    refine e_istore_n (pc' := 13) (L' := [some (rv 0), some (iv k), some (iv 0), none]) dX10_rest_12 rfl (by decide) rfl ?_
    rw [if_pos (by omega)]
    exact l_rest ho hch hbr k (by omega) (σ.1 1 6).toNat 0 σ _ (by omega) (by omega) rfl Fr.rf
  · have c2_1n : ¬ (0 ≤ k ∧ k ≤ 1) := fun q => absurd (if_pos q : (if 0 ≤ k ∧ k ≤ 1 then (1 : Int) else 0) = 1) (by have := c2_1; omega)
    refine e_bipush (pc' := 10) (z := (-10)) dX10_rest_8 rfl (by decide) ?_
    exact e_iret dX10_rest_10 rfl ⟨rfl, Nat.le_refl _⟩ ⟨_, rfl, by rw [if_neg (by omega)], Fr.rf⟩
