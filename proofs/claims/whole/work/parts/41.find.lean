theorem fbN_cg {f g : Int → Int} : ∀ n : Nat, (∀ a : Int, 0 ≤ a → a ≤ (n : Int) → f a = g a) → fbN f n = fbN g n
  | 0, h => by unfold fbN; rw [h 0 (Int.le_refl _) (Int.le_refl _)]
  | n + 1, h => by
    unfold fbN
    rw [fbN_cg n (fun a p q => h a p (by omega)), h ((n : Int) + 1) (by omega) (by omega)]
theorem fbI_cg {f g : Int → Int} {i : Int} (hi : 0 ≤ i) (h : ∀ a : Int, 0 ≤ a → a ≤ i → f a = g a) : fbI f i = fbI g i := fbN_cg _ (fun a p q => h a p (by omega))
/-- what all could have from work 3 - n on, with so much left -/
def gW (σ : SG) (co : Int) : Nat → Int → Int
  | 0 => fun l => σ.1 1 8 * min l co
  | n + 1 => fun l => (fbI (fun a => waS σ 1 (2 - n) a + gW σ co n (l - a)) (min 60 l)).2
def GW (σ : SG) (co w l : Int) : Int := gW σ co (3 - w).toNat l
theorem GW_s (σ : SG) (co : Int) {w : Int} (h0 : 0 ≤ w) (h3 : w < 3) (l : Int) : GW σ co w l = (fbI (fun a => waS σ 1 w a + GW σ co (w + 1) (l - a)) (min 60 l)).2 := by
  unfold GW
  rw [show (3 - w).toNat = (3 - (w + 1)).toNat + 1 by omega]
  show (fbI (fun a => waS σ 1 (2 - ((3 - (w + 1)).toNat : Int)) a + _) _).2 = _
  rw [show (2 - ((3 - (w + 1)).toNat : Int)) = w by omega]
/-- the levels from w on are worked out -/
def LvI (σ τ : SG) (co tot w : Int) : Prop := (∀ w', w ≤ w' → w' < 3 → (∀ a, 0 ≤ a → a ≤ 60 → τ.1 50 (w' * 61 + a) = waS σ 1 w' a) ∧ ∀ l, 0 ≤ l → tot - w' * 60 ≤ l → l ≤ tot → τ.1 51 (w' * 261 + l) = GW σ co w' l) ∧ ∀ l, 0 ≤ l → l ≤ tot → τ.1 51 (783 + l) = GW σ co 3 l
/-- no sum grows too large -/
def GwR (σ : SG) (co tot : Int) : Prop := (∀ w a, 0 ≤ w → w < 3 → 0 ≤ a → a ≤ 60 → 0 ≤ waS σ 1 w a ∧ waS σ 1 w a ≤ 1000000) ∧ ∀ w l, 0 ≤ w → w ≤ 3 → 0 ≤ l → l ≤ tot → 0 ≤ GW σ co w l ∧ GW σ co w l ≤ 10000000
theorem hb_gw {σ τ : SG} {co tot w l : Int} (hw : 0 ≤ w ∧ w < 3) (h : ∀ a, 0 ≤ a → a ≤ 60 → τ.1 50 (w * 61 + a) = waS σ 1 w a) (hn : ∀ l, 0 ≤ l → tot - (w + 1) * 60 ≤ l → l ≤ tot → τ.1 51 ((w + 1) * 261 + l) = GW σ co (w + 1) l) (hl : 0 ≤ l ∧ tot - w * 60 ≤ l ∧ l ≤ tot) : ∀ a, 0 ≤ a → a ≤ min 60 l → hbS τ w l a = waS σ 1 w a + GW σ co (w + 1) (l - a) := by
  intro a p q
  unfold hbS
  rw [h a p (by omega), show (w + 1) * 261 + l - a = (w + 1) * 261 + (l - a) by omega, hn (l - a) (by omega) (by omega) (by omega)]

set_option maxHeartbeats 4000000 in
set_option maxRecDepth 100000 in
theorem l_findL {X : AX} {d : Nat} {σ : SG} {Q : Option AV → SG → Prop} (ho : ScOK σ 1) (co tot : Int) (hco : 0 ≤ co ∧ co ≤ 60) (htot : 0 ≤ tot ∧ tot ≤ 260) (hR : GwR σ co tot) (w : Int) (hw : 0 ≤ w ∧ w < 3) (hK : ∀ (τ : SG) (y5 : Option AV), LvI σ τ co tot w → Fr [49, 50, 51, 52] σ τ → Ev X 0 0 (d + 3) mX1_find 125 [some (rv 49), some (rv 1), some (iv co), some (iv tot), some (iv w), y5] [] τ Q) : ∀ (k : Nat) (l : Int) (τ : SG), 0 ≤ l → tot - w * 60 ≤ l → l ≤ tot + 1 → tot + 1 - l < k → (∀ l', 0 ≤ l' → tot - w * 60 ≤ l' → l' < l → τ.1 51 (w * 261 + l') = GW σ co w l') → (∀ a, 0 ≤ a → a ≤ 60 → τ.1 50 (w * 61 + a) = waS σ 1 w a) → LvI σ τ co tot (w + 1) → Fr [49, 50, 51, 52] σ τ → Ev X 0 0 (d + 3) mX1_find 83 [some (rv 49), some (rv 1), some (iv co), some (iv tot), some (iv w), some (iv l)] [] τ Q := by
  intro k
  induction k with
  | zero => intros; omega
  | succ k ih =>
  intro l τ hl0 hlo hl1 hlk hB hA hL hF
  refine e_iload (pc' := 85) dX1_find_83 rfl rfl ?_
  refine e_iload_n (pc' := 86) dX1_find_85 rfl rfl ?_
  refine e_icmpI (pc' := 89) (t := 125) dX1_find_86 (by decide) rfl ⟨by omega, by omega⟩ ⟨by omega, by omega⟩ (fun (c2_1 : tot < (l : Int)) => ?_) (fun (c2_1 : ¬ (tot < (l : Int))) => ?_)
  · refine hK τ _ ⟨fun w' p q => ?_, hL.2⟩ hF
    by_cases hq : w' = w
    · subst hq; exact ⟨hA, fun l' x y z => hB l' x y (by omega)⟩
    · exact hL.1 w' (by omega) q
  · have hnx : ∀ l, 0 ≤ l → tot - (w + 1) * 60 ≤ l → l ≤ tot → τ.1 51 ((w + 1) * 261 + l) = GW σ co (w + 1) l := by
      intro l' x y z
      by_cases hq : w + 1 = 3
      · rw [hq, show (3 : Int) * 261 + l' = 783 + l' by omega]; exact hL.2 l' x z
      · exact (hL.1 (w + 1) (Int.le_refl _) (by omega)).2 l' x y z
    have hbe := hb_gw hw hA hnx ⟨by omega, by omega, by omega⟩ (l := l)
    have hr : ∀ a, 0 ≤ a → a ≤ 60 → a ≤ l → 0 ≤ hbS τ w l a ∧ hbS τ w l a ≤ 100000000 := by
      intro a x y z
      rw [hbe a x (by omega)]
      have r1 := hR.1 w a hw.1 hw.2 x y
      have r2 := hR.2 (w + 1) (l - a) (by omega) (by omega) (by omega) (by omega)
      omega
    have hfi0 := fbN_in (fun a => waS σ 1 w a + GW σ co (w + 1) (l - a)) (min 60 l).toNat
    have hfi : 0 ≤ (fbI (fun a => waS σ 1 w a + GW σ co (w + 1) (l - a)) (min 60 l)).1 ∧ (fbI (fun a => waS σ 1 w a + GW σ co (w + 1) (l - a)) (min 60 l)).1 ≤ min 60 l ∧ (fbI (fun a => waS σ 1 w a + GW σ co (w + 1) (l - a)) (min 60 l)).2 = waS σ 1 w (fbI (fun a => waS σ 1 w a + GW σ co (w + 1) (l - a)) (min 60 l)).1 + GW σ co (w + 1) (l - (fbI (fun a => waS σ 1 w a + GW σ co (w + 1) (l - a)) (min 60 l)).1) := ⟨hfi0.1, Int.le_trans hfi0.2.1 (by omega), hfi0.2.2⟩
    refine e_aload_n (pc' := 90) dX1_find_89 rfl rfl ?_
    refine e_getR (pc' := 93) dX1_find_90 rfl f_1_15 h_49 rfl ?_
    refine e_iload (pc' := 95) dX1_find_93 rfl rfl ?_
    refine e_sipush (pc' := 98) (z := 261) dX1_find_95 rfl (by decide) ?_
    refine e_imul (pc' := 99) dX1_find_98 rfl ?_
    refine e_iload (pc' := 101) dX1_find_99 rfl rfl ?_
    refine e_iadd (pc' := 102) dX1_find_101 rfl ?_
    refine e_aload_n (pc' := 103) dX1_find_102 rfl rfl ?_
    refine e_iload (pc' := 105) dX1_find_103 rfl rfl ?_
    refine e_iload (pc' := 107) dX1_find_105 rfl rfl ?_
    refine e_aload_n (pc' := 108) dX1_find_107 rfl rfl ?_
    refine e_iload (pc' := 110) dX1_find_108 rfl rfl ?_
    refine e_iload (pc' := 112) dX1_find_110 rfl rfl ?_
    refine e_cv2i (pc' := 115) dX1_find_112 rfl k_1_47 h_49 rfl (Nat.le_of_ble_eq_true rfl) rfl rfl ⟨rfl, rfl⟩ ⟨Nat.zero_le _, Nat.zero_le _⟩ (s_firstBest (σ := τ) w l hw ⟨by omega, by omega⟩ hr) ?_
    intro r σ' hq; rw [hq.1, hq.2]; clear hq σ'
    rw [fbI_cg (by omega) hbe]
    refine e_cv3i (pc' := 118) dX1_find_115 rfl k_1_50 h_49 rfl (Nat.le_of_ble_eq_true rfl) rfl rfl ⟨rfl, rfl⟩ ⟨Nat.zero_le _, Nat.zero_le _⟩ (s_haveBy (σ := τ) w l ((fbI (fun a => waS σ 1 w a + GW σ co (w + 1) (l - a)) (min 60 l)).1) hw ⟨hfi.1, by omega⟩ ⟨by omega, by omega⟩) ?_
    intro r σ' hq; rw [hq.1, hq.2]; clear hq σ'
    rw [hbe _ hfi.1 (by omega), show waS σ 1 w (fbI (fun a => waS σ 1 w a + GW σ co (w + 1) (l - a)) (min 60 l)).1 + GW σ co (w + 1) (l - (fbI (fun a => waS σ 1 w a + GW σ co (w + 1) (l - a)) (min 60 l)).1) = GW σ co w l from (by rw [GW_s σ co hw.1 hw.2]; exact hfi.2.2.symm)]
    refine e_iast (pc' := 119) dX1_find_118 rfl h_51 (by decide) (by omega) (by omega) ?_
    refine e_iinc (pc' := 122) (L' := [some (rv 49), some (rv 1), some (iv co), some (iv tot), some (iv w), some (iv (l + 1))]) dX1_find_119 rfl rfl (by decide) rfl ?_
    refine e_goto (pc' := 83) dX1_find_122 (by decide) ?_
    refine ih _ _ (by omega) (by omega) (by omega) (by omega) (fun l' p q z => ?_) (fun a p q => hA a p q) ⟨fun w' p q => ⟨fun a x y => (hL.1 w' p q).1 a x y, fun l' x y z => ?_⟩, fun l' x y => ?_⟩ (fr_I hF (by decide))
    · show (if 51 = 51 ∧ w * 261 + l' = w * 261 + l then _ else τ.1 51 (w * 261 + l')) = _
      by_cases hq : l' = l
      · rw [if_pos ⟨rfl, by omega⟩, hq]
      · rw [if_neg (fun z => hq (by omega)), hB l' p q (by omega)]
    · show (if 51 = 51 ∧ w' * 261 + l' = w * 261 + l then _ else τ.1 51 (w' * 261 + l')) = _
      rw [if_neg (fun z => by omega)]
      exact (hL.1 w' p q).2 l' x y z
    · show (if 51 = 51 ∧ 783 + l' = w * 261 + l then _ else τ.1 51 (783 + l')) = _
      rw [if_neg (fun z => by omega)]
      exact hL.2 l' x y

theorem sameSc_C {σ τ : SG} (h : Fr [49, 50, 51, 52] σ τ) : SameSc σ τ 1 := fun k h1 h2 => (h k (by simp only [List.mem_cons, List.not_mem_nil, or_false]; omega)).1
theorem waS_cg {σ τ : SG} (e : SameSc σ τ 1) (w a : Int) : waS τ 1 w a = waS σ 1 w a := by
  unfold waS
  rw [e 1 (by omega) (by omega), e (1 + 2) (by omega) (by omega), e (1 + 3) (by omega) (by omega), e (1 + 4) (by omega) (by omega)]

set_option maxHeartbeats 4000000 in
set_option maxRecDepth 100000 in
theorem l_findW {X : AX} {d : Nat} {σ : SG} {Q : Option AV → SG → Prop} (ho : ScOK σ 1) (co tot : Int) (hco : 0 ≤ co ∧ co ≤ 60) (htot : 0 ≤ tot ∧ tot ≤ 260) (hR : GwR σ co tot) (w : Int) (hw : 0 ≤ w ∧ w < 3) (hK : ∀ (τ : SG) (y5 : Option AV), LvI σ τ co tot w → Fr [49, 50, 51, 52] σ τ → Ev X 0 0 (d + 3) mX1_find 125 [some (rv 49), some (rv 1), some (iv co), some (iv tot), some (iv w), y5] [] τ Q) (τ : SG) (x5 : Option AV) (hL : LvI σ τ co tot (w + 1)) (hF : Fr [49, 50, 51, 52] σ τ) : Ev X 0 0 (d + 3) mX1_find 63 [some (rv 49), some (rv 1), some (iv co), some (iv tot), some (iv w), x5] [] τ Q := by
  refine e_aload_n (pc' := 64) dX1_find_63 rfl rfl ?_
  refine e_aload_n (pc' := 65) dX1_find_64 rfl rfl ?_
  refine e_iload (pc' := 67) dX1_find_65 rfl rfl ?_
  refine e_cv2v (pc' := 70) dX1_find_67 rfl k_1_40 h_49 rfl (Nat.le_of_ble_eq_true rfl) rfl rfl ⟨rfl, rfl⟩ ⟨Nat.zero_le _, Nat.zero_le _⟩ (s_fillWorths (σ := τ) (ho.cg (sameSc_C hF)) w hw) ?_
  rintro τ1 ⟨h50, hrs, hG1⟩
  have hF1 : Fr [49, 50, 51, 52] σ τ1 := hF.tr (hG1.mono (by decide))
  have hA1 : ∀ a, 0 ≤ a → a ≤ 60 → τ1.1 50 (w * 61 + a) = waS σ 1 w a := fun a p q => (h50 a p q).trans (waS_cg (sameSc_C hF) w a)
  have g51 : τ1.1 51 = τ.1 51 := (hG1 51 (by decide)).1
  have hL1 : LvI σ τ1 co tot (w + 1) := ⟨fun w' p q => ⟨fun a x y => (hrs _ (by omega)).trans ((hL.1 w' p q).1 a x y), fun l x y z => by rw [g51]; exact (hL.1 w' p q).2 l x y z⟩, fun l x y => by rw [g51]; exact hL.2 l x y⟩
  refine e_iconst (pc' := 71) dX1_find_70 rfl ?_
  refine e_iload_n (pc' := 72) dX1_find_71 rfl rfl ?_
  refine e_iload (pc' := 74) dX1_find_72 rfl rfl ?_
  refine e_bipush (pc' := 76) (z := 60) dX1_find_74 rfl (by decide) ?_
  refine e_imul (pc' := 77) dX1_find_76 rfl ?_
  refine e_isub (pc' := 78) dX1_find_77 rfl ?_
  refine e_max (pc' := 81) dX1_find_78 rfl p_1_44 ⟨by omega, by omega⟩ ⟨by omega, by omega⟩ (Nat.le_of_ble_eq_true rfl) ⟨Nat.zero_le _, Nat.zero_le _⟩ ?_
  refine e_istore (pc' := 83) (L' := [some (rv 49), some (rv 1), some (iv co), some (iv tot), some (iv w), some (iv (max 0 (tot - (w * 60))))]) dX1_find_81 rfl (by decide) rfl ?_
  exact l_findL ho co tot hco htot hR w hw hK 400 _ τ1 (by omega) (by omega) (by omega) (by omega) (fun l' p q z => by omega) hA1 hL1 hF1

set_option maxHeartbeats 4000000 in
set_option maxRecDepth 100000 in
theorem l_find1 {X : AX} {d : Nat} {σ : SG} {Q : Option AV → SG → Prop} (ho : ScOK σ 1) (co tot : Int) (hco : 0 ≤ co ∧ co ≤ 60) (htot : 0 ≤ tot ∧ tot ≤ 260) (hR : GwR σ co tot) (hK : ∀ (τ : SG) (y4 : Option AV), LvI σ τ co tot 3 → Fr [49, 50, 51, 52] σ τ → Ev X 0 0 (d + 3) mX1_find 55 [some (rv 49), some (rv 1), some (iv co), some (iv tot), y4, none] [] τ Q) : ∀ (k : Nat) (l : Int) (τ : SG), 0 ≤ l → l ≤ tot + 1 → tot + 1 - l < k → (∀ l', 0 ≤ l' → l' < l → τ.1 51 (783 + l') = GW σ co 3 l') → Fr [49, 50, 51, 52] σ τ → Ev X 0 0 (d + 3) mX1_find 21 [some (rv 49), some (rv 1), some (iv co), some (iv tot), some (iv l), none] [] τ Q := by
  intro k
  induction k with
  | zero => intros; omega
  | succ k ih =>
  intro l τ hl0 hl1 hlk hB hF
  refine e_iload (pc' := 23) dX1_find_21 rfl rfl ?_
  refine e_iload_n (pc' := 24) dX1_find_23 rfl rfl ?_
  refine e_icmpI (pc' := 27) (t := 55) dX1_find_24 (by decide) rfl ⟨by omega, by omega⟩ ⟨by omega, by omega⟩ (fun (c2_1 : tot < (l : Int)) => ?_) (fun (c2_1 : ¬ (tot < (l : Int))) => ?_)
  · exact hK τ _ ⟨fun w' p q => by omega, fun l' p q => hB l' p (by omega)⟩ hF
  · refine e_aload_n (pc' := 28) dX1_find_27 rfl rfl ?_
    refine e_getR (pc' := 31) dX1_find_28 rfl f_1_15 h_49 rfl ?_
    refine e_sipush (pc' := 34) (z := 783) dX1_find_31 rfl (by decide) ?_
    refine e_iload (pc' := 36) dX1_find_34 rfl rfl ?_
    refine e_iadd (pc' := 37) dX1_find_36 rfl ?_
    refine e_aload_n (pc' := 38) dX1_find_37 rfl rfl ?_
    refine e_getI (pc' := 41) (v := (σ.1 1 8)) dX1_find_38 rfl f_1_37 h_1 rfl ((congrFun (hF 1 (by decide)).1 8).trans rfl) ?_
    refine e_iload (pc' := 43) dX1_find_41 rfl rfl ?_
    refine e_iload_n (pc' := 44) dX1_find_43 rfl rfl ?_
    refine e_min (pc' := 47) dX1_find_44 rfl p_1_31 ⟨by omega, by omega⟩ ⟨by omega, by omega⟩ (Nat.le_of_ble_eq_true rfl) ⟨Nat.zero_le _, Nat.zero_le _⟩ ?_
    refine e_imul (pc' := 48) dX1_find_47 rfl ?_
    refine e_iast (pc' := 49) dX1_find_48 rfl h_51 (by decide) (by omega) (by omega) ?_
    refine e_iinc (pc' := 52) (L' := [some (rv 49), some (rv 1), some (iv co), some (iv tot), some (iv (l + 1)), none]) dX1_find_49 rfl rfl (by decide) rfl ?_
    refine e_goto (pc' := 21) dX1_find_52 (by decide) ?_
    refine ih _ _ (by omega) (by omega) (by omega) (fun l' p q => ?_) (fr_I hF (by decide))
    show (if 51 = 51 ∧ 783 + l' = 783 + l then _ else τ.1 51 (783 + l')) = _
    by_cases hq : l' = l
    · rw [if_pos ⟨rfl, by omega⟩, hq]; rfl
    · rw [if_neg (fun z => hq (by omega)), hB l' p (by omega)]
