def fdI (f : Int → BR → BR) : Nat → BR → BR
  | 0, t => t
  | n + 1, t => f n (fdI f n t)
def fdZ (f : Int → BR → BR) (i : Int) (t : BR) : BR := fdI f i.toNat t
theorem fdZ_s (f : Int → BR → BR) {i : Int} (h : 0 ≤ i) (t : BR) : fdZ f (i + 1) t = f i (fdZ f i t) := by
  unfold fdZ
  have e1 : (i + 1).toNat = i.toNat + 1 := by omega
  rw [e1]
  show f ((i.toNat : Nat) : Int) _ = _
  rw [Int.toNat_of_nonneg h]
def tp0 (wk co : Int) : Int := if wk ≤ 0 then 0 else co
def tp1 (wk co a : Int) : Int := if wk ≤ 1 then 0 else co - a
def tp2 (wk co a b : Int) : Int := if wk ≤ 2 then 0 else co - a - b
def bsC (V : Int → Int → Int → Int) (a b : Int) : Int → BR → BR := fun c t => updB t (V a b c) a b c
def bsB (V : Int → Int → Int → Int) (wk co a : Int) : Int → BR → BR := fun b t => fdZ (bsC V a b) (tp2 wk co a b + 1) t
def bsA (V : Int → Int → Int → Int) (wk co : Int) : Int → BR → BR := fun a t => fdZ (bsB V wk co a) (tp1 wk co a + 1) t
/-- the first row by which a giver has most, and how much -/
def bsS (V : Int → Int → Int → Int) (wk co : Int) (t : BR) : BR := fdZ (bsA V wk co) (tp0 wk co + 1) t
/-- what a giver has by a row of gifts, the others' as they are -/
def bvS (σ : SG) (s : Nat) (g a b c : Int) : Int := hvO σ s (fun w => ((gfS σ s w - σ.1 (s + 5) (g * 3 + w)) + rowW a b c w) + adS (σ.1 s 11) (σ.1 s 10) (fun w => wbS σ s g w (rowW a b c w)) w) (σ.1 (s + 1) g - a - b - c) g
def bfS (σ : SG) (s : Nat) (g : Int) : Int := hvO σ s (fun w => gfS σ s w + adS (σ.1 s 11) (σ.1 s 10) (wdS σ s) w) (ktO σ s g) g
theorem wv_bv {σ τ : SG} {s : Nat} {g a b c : Int} (hs : SameSc σ τ s) (hf : FsI σ τ s g) (h0 : 0 ≤ a ∧ (if 0 < σ.1 s 7 then a ≤ σ.1 (s + 1) g else a = 0)) (h1 : 0 ≤ b ∧ (if 1 < σ.1 s 7 then b ≤ σ.1 (s + 1) g else b = 0)) (h2 : 0 ≤ c ∧ (if 2 < σ.1 s 7 then c ≤ σ.1 (s + 1) g else c = 0)) : wvS τ s (τ.1 45) (τ.1 44) g a b c = bvS σ s g a b c ∧ (τ.1 44 (0 * 13 + a) = wbS σ s g 0 a ∧ τ.1 44 (1 * 13 + b) = wbS σ s g 1 b ∧ τ.1 44 (2 * 13 + c) = wbS σ s g 2 c) := by
  have k0 := hf.2 0 a (by decide) (by decide) h0.1 h0.2
  have k1 := hf.2 1 b (by decide) (by decide) h1.1 h1.2
  have k2 := hf.2 2 c (by decide) (by decide) h2.1 h2.2
  refine ⟨?_, k0, k1, k2⟩
  unfold wvS bvS
  rw [hs s (by omega) (by omega), hs (s + 1) (by omega) (by omega)]
  have ea := adS_cg (md := σ.1 s 11) (p := σ.1 s 10) (u := fun w => τ.1 44 (w * 13 + rowW a b c w)) (v := fun w => wbS σ s g w (rowW a b c w)) k0 k1 k2
  exact hvO_cg hs (by show (τ.1 45 0 + _) + _ = _; rw [hf.1 0 (by decide) (by decide), ea 0 (by decide) (by decide)]) (by show (τ.1 45 1 + _) + _ = _; rw [hf.1 1 (by decide) (by decide), ea 1 (by decide) (by decide)]) (by show (τ.1 45 2 + _) + _ = _; rw [hf.1 2 (by decide) (by decide), ea 2 (by decide) (by decide)]) _ _
theorem FsI.fr {σ τ υ : SG} {s : Nat} {g : Int} (h : FsI σ τ s g) (e4 : υ.1 44 = τ.1 44) (e5 : υ.1 45 = τ.1 45) : FsI σ υ s g := by
  unfold FsI at *
  rw [e4, e5]
  exact h

theorem sameScA_1 {σ τ : SG} (h : Fr [37, 38, 39, 40, 41, 42, 43, 44, 45, 46] σ τ) : SameSc σ τ 1 := fun k h1 h2 => (h k (by simp only [List.mem_cons, List.not_mem_nil, or_false]; omega)).1

set_option maxHeartbeats 4000000 in
set_option maxRecDepth 100000 in
theorem l_chC_1 {X : AX} {d : Nat} {σ : SG} (ho : ScOK σ 1) (g : Int) (hg : 0 ≤ g ∧ g < 5) (hot : ∀ w, 0 ≤ w → w < 3 → 0 ≤ gfS σ 1 w - σ.1 6 (g * 3 + w) ∧ gfS σ 1 w - σ.1 6 (g * 3 + w) ≤ 100) (hVr : ∀ x y z, 0 ≤ x → 0 ≤ y → 0 ≤ z → x + y + z ≤ (σ.1 2 g) → rg (bvS σ 1 g x y z)) (bf z0 z1 z2 : Int) (t0 t1 a y : Int) (hra : 0 ≤ a ∧ (0 < (σ.1 1 7) ∨ a = 0) ∧ a ≤ (σ.1 2 g)) (hry : 0 ≤ y ∧ (1 < (σ.1 1 7) ∨ y = 0) ∧ a + y ≤ (σ.1 2 g)) (t : BR) (hK : ∀ (τ : SG) (x9 : Option AV), (Fr [37, 38, 39, 40, 41, 42, 43, 44, 45, 46] σ τ ∧ FsI σ τ 1 g ∧ τ.1 43 5 = bf ∧ rg (τ.1 43 4)) → brOf τ = fdZ (bsC (bvS σ 1 g) a y) ((tp2 (σ.1 1 7) (σ.1 2 g) a y) + 1) t → Ev X 0 0 (d + 4) mX0_choose 145 [some (rv 43), some (rv 1), some (iv g), some (iv (σ.1 2 g)), some (iv t0), some (iv a), some (iv t1), some (iv y), some (iv (tp2 (σ.1 1 7) (σ.1 2 g) a y)), x9] [] τ (QV (fun σ' => brOf σ' = bsS (bvS σ 1 g) (σ.1 1 7) (σ.1 2 g) (-1, z0, z1, z2) ∧ σ'.1 43 5 = bf ∧ Fr [37, 38, 39, 40, 41, 42, 43, 44, 45, 46] σ σ'))) : ∀ (k : Nat) (n : Int) (τ : SG), 0 ≤ n → n ≤ (tp2 (σ.1 1 7) (σ.1 2 g) a y) + 1 → (tp2 (σ.1 1 7) (σ.1 2 g) a y) + 1 - n < k → (Fr [37, 38, 39, 40, 41, 42, 43, 44, 45, 46] σ τ ∧ FsI σ τ 1 g ∧ τ.1 43 5 = bf ∧ rg (τ.1 43 4)) → brOf τ = fdZ (bsC (bvS σ 1 g) a y) n t → Ev X 0 0 (d + 4) mX0_choose 120 [some (rv 43), some (rv 1), some (iv g), some (iv (σ.1 2 g)), some (iv t0), some (iv a), some (iv t1), some (iv y), some (iv (tp2 (σ.1 1 7) (σ.1 2 g) a y)), some (iv n)] [] τ (QV (fun σ' => brOf σ' = bsS (bvS σ 1 g) (σ.1 1 7) (σ.1 2 g) (-1, z0, z1, z2) ∧ σ'.1 43 5 = bf ∧ Fr [37, 38, 39, 40, 41, 42, 43, 44, 45, 46] σ σ')) := by
  intro k
  induction k with
  | zero => intros; omega
  | succ k ih =>
  intro n τ hn0 hn1 hnk hI hB
  have h7 := ho.2.1
  have hco : 0 ≤ (σ.1 2 g) ∧ (σ.1 2 g) ≤ 12 := ho.2.2.2.2.2.2.2.2.2.2.1 g hg.1 hg.2
  have hoτ : ScOK τ 1 := ho.cg (sameScA_1 hI.1)
  have ht2 : (tp2 (σ.1 1 7) (σ.1 2 g) a y) = (if (σ.1 1 7) ≤ 2 then 0 else (σ.1 2 g) - a - y) := rfl
  have ht2r : 0 ≤ (tp2 (σ.1 1 7) (σ.1 2 g) a y) ∧ (tp2 (σ.1 1 7) (σ.1 2 g) a y) ≤ 12 ∧ (2 < (σ.1 1 7) ∨ (tp2 (σ.1 1 7) (σ.1 2 g) a y) = 0) ∧ a + y + (tp2 (σ.1 1 7) (σ.1 2 g) a y) ≤ (σ.1 2 g) := by rw [ht2]; split <;> omega
  refine e_iload (pc' := 122) dX0_choose_120 rfl rfl ?_
  refine e_iload (pc' := 124) dX0_choose_122 rfl rfl ?_
  refine e_icmpI (pc' := 127) (t := 145) dX0_choose_124 (by decide) rfl ⟨by omega, by omega⟩ ⟨by omega, by omega⟩ (fun (c2_1 : (tp2 (σ.1 1 7) (σ.1 2 g) a y) < (n : Int)) => ?_) (fun (c2_1 : ¬ ((tp2 (σ.1 1 7) (σ.1 2 g) a y) < (n : Int))) => ?_)
  · exact hK τ _ hI (by rw [hB]; congr 1; omega)
  · have hn2 : n ≤ (tp2 (σ.1 1 7) (σ.1 2 g) a y) := by omega
    have hv := wv_bv (a := a) (b := y) (c := n) (sameScA_1 hI.1) hI.2.1 (show 0 ≤ a ∧ (if 0 < σ.1 1 7 then a ≤ σ.1 2 g else a = 0) from ⟨by omega, by split <;> omega⟩) (show 0 ≤ y ∧ (if 1 < σ.1 1 7 then y ≤ σ.1 2 g else y = 0) from ⟨by omega, by split <;> omega⟩) (show 0 ≤ n ∧ (if 2 < σ.1 1 7 then n ≤ σ.1 2 g else n = 0) from ⟨by omega, by split <;> omega⟩)
    refine e_aload_n (pc' := 128) dX0_choose_127 rfl rfl ?_
    refine e_aload_n (pc' := 129) dX0_choose_128 rfl rfl ?_
    refine e_iload_n (pc' := 130) dX0_choose_129 rfl rfl ?_
    refine e_iload (pc' := 132) dX0_choose_130 rfl rfl ?_
    refine e_iload (pc' := 134) dX0_choose_132 rfl rfl ?_
    refine e_iload (pc' := 136) dX0_choose_134 rfl rfl ?_
    refine e_cv5v (pc' := 139) dX0_choose_136 rfl k_0_58 h_43 rfl (Nat.le_of_ble_eq_true rfl) rfl rfl ⟨rfl, rfl⟩ ⟨Nat.zero_le _, Nat.zero_le _⟩ (s_weigh_1 (σ := τ) hoτ (fun w p q => by rw [hI.2.1.1 w p q]; exact hot w p q) g a y n (by rw [hv.2.1]; exact wbS_rg _ _ _ _ _) (by rw [hv.2.2.1]; exact wbS_rg _ _ _ _ _) (by rw [hv.2.2.2]; exact wbS_rg _ _ _ _ _) hg ⟨by omega, by omega⟩ ⟨by omega, by omega⟩ ⟨by omega, by omega⟩ hI.2.2.2 (by rw [hv.1]; exact hVr a y n (by omega) (by omega) (by omega) (by omega))) ?_
    rintro τ2 ⟨hb2, h52, hG2⟩
    rw [hv.1] at hb2
    refine e_iinc (pc' := 142) (L' := [some (rv 43), some (rv 1), some (iv g), some (iv (σ.1 2 g)), some (iv t0), some (iv a), some (iv t1), some (iv y), some (iv (tp2 (σ.1 1 7) (σ.1 2 g) a y)), some (iv (n + 1))]) dX0_choose_139 rfl rfl (by decide) rfl ?_
    refine e_goto (pc' := 120) dX0_choose_142 (by decide) ?_
    refine ih _ _ (by omega) (by omega) (by omega) ⟨hI.1.tr (hG2.mono (by decide)), hI.2.1.fr (hG2 44 (by decide)).1 (hG2 45 (by decide)).1, h52.trans hI.2.2.1, ?_⟩ (by rw [fdZ_s _ (by omega), hb2, hB]; rfl)
    have hq : τ2.1 43 4 = (updB (brOf τ) (bvS σ 1 g a y n) a y n).1 := congrArg Prod.fst hb2
    rw [hq]
    unfold updB
    split
    · exact hVr a y n (by omega) (by omega) (by omega) (by omega)
    · exact hI.2.2.2

set_option maxHeartbeats 4000000 in
set_option maxRecDepth 100000 in
theorem l_chB_1 {X : AX} {d : Nat} {σ : SG} (ho : ScOK σ 1) (g : Int) (hg : 0 ≤ g ∧ g < 5) (hot : ∀ w, 0 ≤ w → w < 3 → 0 ≤ gfS σ 1 w - σ.1 6 (g * 3 + w) ∧ gfS σ 1 w - σ.1 6 (g * 3 + w) ≤ 100) (hVr : ∀ x y z, 0 ≤ x → 0 ≤ y → 0 ≤ z → x + y + z ≤ (σ.1 2 g) → rg (bvS σ 1 g x y z)) (bf z0 z1 z2 : Int) (t0 a : Int) (hra : 0 ≤ a ∧ (0 < (σ.1 1 7) ∨ a = 0) ∧ a ≤ (σ.1 2 g)) (t : BR) (hK : ∀ (τ : SG) (x7 x8 x9 : Option AV), (Fr [37, 38, 39, 40, 41, 42, 43, 44, 45, 46] σ τ ∧ FsI σ τ 1 g ∧ τ.1 43 5 = bf ∧ rg (τ.1 43 4)) → brOf τ = fdZ (bsB (bvS σ 1 g) (σ.1 1 7) (σ.1 2 g) a) ((tp1 (σ.1 1 7) (σ.1 2 g) a) + 1) t → Ev X 0 0 (d + 4) mX0_choose 151 [some (rv 43), some (rv 1), some (iv g), some (iv (σ.1 2 g)), some (iv t0), some (iv a), some (iv (tp1 (σ.1 1 7) (σ.1 2 g) a)), x7, x8, x9] [] τ (QV (fun σ' => brOf σ' = bsS (bvS σ 1 g) (σ.1 1 7) (σ.1 2 g) (-1, z0, z1, z2) ∧ σ'.1 43 5 = bf ∧ Fr [37, 38, 39, 40, 41, 42, 43, 44, 45, 46] σ σ'))) : ∀ (k : Nat) (y : Int) (τ : SG) (x8 x9 : Option AV), 0 ≤ y → y ≤ (tp1 (σ.1 1 7) (σ.1 2 g) a) + 1 → (tp1 (σ.1 1 7) (σ.1 2 g) a) + 1 - y < k → (Fr [37, 38, 39, 40, 41, 42, 43, 44, 45, 46] σ τ ∧ FsI σ τ 1 g ∧ τ.1 43 5 = bf ∧ rg (τ.1 43 4)) → brOf τ = fdZ (bsB (bvS σ 1 g) (σ.1 1 7) (σ.1 2 g) a) y t → Ev X 0 0 (d + 4) mX0_choose 89 [some (rv 43), some (rv 1), some (iv g), some (iv (σ.1 2 g)), some (iv t0), some (iv a), some (iv (tp1 (σ.1 1 7) (σ.1 2 g) a)), some (iv y), x8, x9] [] τ (QV (fun σ' => brOf σ' = bsS (bvS σ 1 g) (σ.1 1 7) (σ.1 2 g) (-1, z0, z1, z2) ∧ σ'.1 43 5 = bf ∧ Fr [37, 38, 39, 40, 41, 42, 43, 44, 45, 46] σ σ')) := by
  intro k
  induction k with
  | zero => intros; omega
  | succ k ih =>
  intro y τ x8 x9 hy0 hy1 hyk hI hB
  have h7 := ho.2.1
  have hco : 0 ≤ (σ.1 2 g) ∧ (σ.1 2 g) ≤ 12 := ho.2.2.2.2.2.2.2.2.2.2.1 g hg.1 hg.2
  have ht1 : (tp1 (σ.1 1 7) (σ.1 2 g) a) = (if (σ.1 1 7) ≤ 1 then 0 else (σ.1 2 g) - a) := rfl
  have ht1r : 0 ≤ (tp1 (σ.1 1 7) (σ.1 2 g) a) ∧ (tp1 (σ.1 1 7) (σ.1 2 g) a) ≤ 12 ∧ (1 < (σ.1 1 7) ∨ (tp1 (σ.1 1 7) (σ.1 2 g) a) = 0) ∧ a + (tp1 (σ.1 1 7) (σ.1 2 g) a) ≤ (σ.1 2 g) := by rw [ht1]; split <;> omega
  refine e_iload (pc' := 91) dX0_choose_89 rfl rfl ?_
  refine e_iload (pc' := 93) dX0_choose_91 rfl rfl ?_
  refine e_icmpI (pc' := 96) (t := 151) dX0_choose_93 (by decide) rfl ⟨by omega, by omega⟩ ⟨by omega, by omega⟩ (fun (c2_1 : (tp1 (σ.1 1 7) (σ.1 2 g) a) < (y : Int)) => ?_) (fun (c2_1 : ¬ ((tp1 (σ.1 1 7) (σ.1 2 g) a) < (y : Int))) => ?_)
  · exact hK τ _ _ _ hI (by rw [hB]; congr 1; omega)
  · refine e_aload_n (pc' := 97) dX0_choose_96 rfl rfl ?_
    refine e_getI (pc' := 100) (v := (σ.1 1 7)) dX0_choose_97 rfl f_0_55 h_1 rfl ((congrFun (hI.1 1 (by decide)).1 7).trans rfl) ?_
    refine e_iconst (pc' := 101) dX0_choose_100 rfl ?_
    refine e_icmpI (pc' := 104) (t := 114) dX0_choose_101 (by decide) rfl ⟨by omega, by omega⟩ ⟨by omega, by omega⟩ (fun (c4_2 : ((σ.1 1 7) : Int) ≤ 2) => ?_) (fun (c4_2 : ¬ (((σ.1 1 7) : Int) ≤ 2)) => ?_)
    · refine e_iconst (pc' := 115) dX0_choose_114 rfl ?_
      refine e_istore (pc' := 117) (L' := [some (rv 43), some (rv 1), some (iv g), some (iv (σ.1 2 g)), some (iv t0), some (iv a), some (iv (tp1 (σ.1 1 7) (σ.1 2 g) a)), some (iv y), some (iv 0), x9]) dX0_choose_115 rfl (by decide) rfl ?_
      refine e_iconst (pc' := 118) dX0_choose_117 rfl ?_
      refine e_istore (pc' := 120) (L' := [some (rv 43), some (rv 1), some (iv g), some (iv (σ.1 2 g)), some (iv t0), some (iv a), some (iv (tp1 (σ.1 1 7) (σ.1 2 g) a)), some (iv y), some (iv 0), some (iv 0)]) dX0_choose_118 rfl (by decide) rfl ?_
      have et : 0 = tp2 (σ.1 1 7) (σ.1 2 g) a y := by unfold tp2; first | (rw [if_pos (by omega)]) | (rw [if_neg (by omega)])
      refine Eq.mpr (congrArg (fun z : Int => Ev X 0 0 (d + 4) mX0_choose 120 [some (rv 43), some (rv 1), some (iv g), some (iv (σ.1 2 g)), some (iv t0), some (iv a), some (iv (tp1 (σ.1 1 7) (σ.1 2 g) a)), some (iv y), some (iv z), some (iv 0)] [] τ _) et) ?_
      refine l_chC_1 ho g hg hot hVr bf z0 z1 z2 t0 (tp1 (σ.1 1 7) (σ.1 2 g) a) a y ⟨by omega, by omega, by omega⟩ ⟨by omega, by omega, by omega⟩ (brOf τ) (fun τ' x9 hI' hB' => ?_) (tp2 (σ.1 1 7) (σ.1 2 g) a y + 2).toNat 0 τ (by omega) (by unfold tp2; split <;> omega) (by unfold tp2; split <;> omega) hI rfl
      refine e_iinc (pc' := 148) (L' := [some (rv 43), some (rv 1), some (iv g), some (iv (σ.1 2 g)), some (iv t0), some (iv a), some (iv (tp1 (σ.1 1 7) (σ.1 2 g) a)), some (iv (y + 1)), some (iv (tp2 (σ.1 1 7) (σ.1 2 g) a y)), x9]) dX0_choose_145 rfl rfl (by decide) rfl ?_
      refine e_goto (pc' := 89) dX0_choose_148 (by decide) ?_
      exact ih _ _ _ _ (by omega) (by omega) (by omega) hI' (by rw [fdZ_s _ (by omega), hB', hB]; rfl)
    · refine e_iload_n (pc' := 105) dX0_choose_104 rfl rfl ?_
      refine e_iload (pc' := 107) dX0_choose_105 rfl rfl ?_
      refine e_isub (pc' := 108) dX0_choose_107 rfl ?_
      refine e_iload (pc' := 110) dX0_choose_108 rfl rfl ?_
      refine e_isub (pc' := 111) dX0_choose_110 rfl ?_
      refine e_goto (pc' := 115) dX0_choose_111 (by decide) ?_
      refine e_istore (pc' := 117) (L' := [some (rv 43), some (rv 1), some (iv g), some (iv (σ.1 2 g)), some (iv t0), some (iv a), some (iv (tp1 (σ.1 1 7) (σ.1 2 g) a)), some (iv y), some (iv (((σ.1 2 g) - a) - y)), x9]) dX0_choose_115 rfl (by decide) rfl ?_
      refine e_iconst (pc' := 118) dX0_choose_117 rfl ?_
      refine e_istore (pc' := 120) (L' := [some (rv 43), some (rv 1), some (iv g), some (iv (σ.1 2 g)), some (iv t0), some (iv a), some (iv (tp1 (σ.1 1 7) (σ.1 2 g) a)), some (iv y), some (iv (((σ.1 2 g) - a) - y)), some (iv 0)]) dX0_choose_118 rfl (by decide) rfl ?_
      have et : (((σ.1 2 g) - a) - y) = tp2 (σ.1 1 7) (σ.1 2 g) a y := by unfold tp2; first | (rw [if_pos (by omega)]) | (rw [if_neg (by omega)])
      refine Eq.mpr (congrArg (fun z : Int => Ev X 0 0 (d + 4) mX0_choose 120 [some (rv 43), some (rv 1), some (iv g), some (iv (σ.1 2 g)), some (iv t0), some (iv a), some (iv (tp1 (σ.1 1 7) (σ.1 2 g) a)), some (iv y), some (iv z), some (iv 0)] [] τ _) et) ?_
      refine l_chC_1 ho g hg hot hVr bf z0 z1 z2 t0 (tp1 (σ.1 1 7) (σ.1 2 g) a) a y ⟨by omega, by omega, by omega⟩ ⟨by omega, by omega, by omega⟩ (brOf τ) (fun τ' x9 hI' hB' => ?_) (tp2 (σ.1 1 7) (σ.1 2 g) a y + 2).toNat 0 τ (by omega) (by unfold tp2; split <;> omega) (by unfold tp2; split <;> omega) hI rfl
      refine e_iinc (pc' := 148) (L' := [some (rv 43), some (rv 1), some (iv g), some (iv (σ.1 2 g)), some (iv t0), some (iv a), some (iv (tp1 (σ.1 1 7) (σ.1 2 g) a)), some (iv (y + 1)), some (iv (tp2 (σ.1 1 7) (σ.1 2 g) a y)), x9]) dX0_choose_145 rfl rfl (by decide) rfl ?_
      refine e_goto (pc' := 89) dX0_choose_148 (by decide) ?_
      exact ih _ _ _ _ (by omega) (by omega) (by omega) hI' (by rw [fdZ_s _ (by omega), hB', hB]; rfl)

set_option maxHeartbeats 4000000 in
set_option maxRecDepth 100000 in
theorem l_chA_1 {X : AX} {d : Nat} {σ : SG} (ho : ScOK σ 1) (g : Int) (hg : 0 ≤ g ∧ g < 5) (hot : ∀ w, 0 ≤ w → w < 3 → 0 ≤ gfS σ 1 w - σ.1 6 (g * 3 + w) ∧ gfS σ 1 w - σ.1 6 (g * 3 + w) ≤ 100) (hVr : ∀ x y z, 0 ≤ x → 0 ≤ y → 0 ≤ z → x + y + z ≤ (σ.1 2 g) → rg (bvS σ 1 g x y z)) (bf z0 z1 z2 : Int) : ∀ (k : Nat) (a : Int) (τ : SG) (x6 x7 x8 x9 : Option AV), 0 ≤ a → a ≤ (tp0 (σ.1 1 7) (σ.1 2 g)) + 1 → (tp0 (σ.1 1 7) (σ.1 2 g)) + 1 - a < k → (Fr [37, 38, 39, 40, 41, 42, 43, 44, 45, 46] σ τ ∧ FsI σ τ 1 g ∧ τ.1 43 5 = bf ∧ rg (τ.1 43 4)) → brOf τ = fdZ (bsA (bvS σ 1 g) (σ.1 1 7) (σ.1 2 g)) a (-1, z0, z1, z2) → Ev X 0 0 (d + 4) mX0_choose 61 [some (rv 43), some (rv 1), some (iv g), some (iv (σ.1 2 g)), some (iv (tp0 (σ.1 1 7) (σ.1 2 g))), some (iv a), x6, x7, x8, x9] [] τ (QV (fun σ' => brOf σ' = bsS (bvS σ 1 g) (σ.1 1 7) (σ.1 2 g) (-1, z0, z1, z2) ∧ σ'.1 43 5 = bf ∧ Fr [37, 38, 39, 40, 41, 42, 43, 44, 45, 46] σ σ')) := by
  intro k
  induction k with
  | zero => intros; omega
  | succ k ih =>
  intro a τ x6 x7 x8 x9 ha0 ha1 hak hI hB
  have h7 := ho.2.1
  have hco : 0 ≤ (σ.1 2 g) ∧ (σ.1 2 g) ≤ 12 := ho.2.2.2.2.2.2.2.2.2.2.1 g hg.1 hg.2
  have ht0 : (tp0 (σ.1 1 7) (σ.1 2 g)) = (if (σ.1 1 7) ≤ 0 then 0 else (σ.1 2 g)) := rfl
  have ht0r : 0 ≤ (tp0 (σ.1 1 7) (σ.1 2 g)) ∧ (tp0 (σ.1 1 7) (σ.1 2 g)) ≤ 12 ∧ (0 < (σ.1 1 7) ∨ (tp0 (σ.1 1 7) (σ.1 2 g)) = 0) ∧ (tp0 (σ.1 1 7) (σ.1 2 g)) ≤ (σ.1 2 g) := by rw [ht0]; split <;> omega
  refine e_iload (pc' := 63) dX0_choose_61 rfl rfl ?_
  refine e_iload (pc' := 65) dX0_choose_63 rfl rfl ?_
  refine e_icmpI (pc' := 68) (t := 157) dX0_choose_65 (by decide) rfl ⟨by omega, by omega⟩ ⟨by omega, by omega⟩ (fun (c2_1 : (tp0 (σ.1 1 7) (σ.1 2 g)) < (a : Int)) => ?_) (fun (c2_1 : ¬ ((tp0 (σ.1 1 7) (σ.1 2 g)) < (a : Int))) => ?_)
  · exact e_vret dX0_choose_157 rfl ⟨rfl, Nat.le_refl _⟩ ⟨rfl, by rw [hB]; unfold bsS; congr 1; omega, hI.2.2.1, hI.1⟩
  · refine e_aload_n (pc' := 69) dX0_choose_68 rfl rfl ?_
    refine e_getI (pc' := 72) (v := (σ.1 1 7)) dX0_choose_69 rfl f_0_55 h_1 rfl ((congrFun (hI.1 1 (by decide)).1 7).trans rfl) ?_
    refine e_iconst (pc' := 73) dX0_choose_72 rfl ?_
    refine e_icmpI (pc' := 76) (t := 83) dX0_choose_73 (by decide) rfl ⟨by omega, by omega⟩ ⟨by omega, by omega⟩ (fun (c4_2 : ((σ.1 1 7) : Int) ≤ 1) => ?_) (fun (c4_2 : ¬ (((σ.1 1 7) : Int) ≤ 1)) => ?_)
    · refine e_iconst (pc' := 84) dX0_choose_83 rfl ?_
      refine e_istore (pc' := 86) (L' := [some (rv 43), some (rv 1), some (iv g), some (iv (σ.1 2 g)), some (iv (tp0 (σ.1 1 7) (σ.1 2 g))), some (iv a), some (iv 0), x7, x8, x9]) dX0_choose_84 rfl (by decide) rfl ?_
      refine e_iconst (pc' := 87) dX0_choose_86 rfl ?_
      refine e_istore (pc' := 89) (L' := [some (rv 43), some (rv 1), some (iv g), some (iv (σ.1 2 g)), some (iv (tp0 (σ.1 1 7) (σ.1 2 g))), some (iv a), some (iv 0), some (iv 0), x8, x9]) dX0_choose_87 rfl (by decide) rfl ?_
      have et : 0 = tp1 (σ.1 1 7) (σ.1 2 g) a := by unfold tp1; first | (rw [if_pos (by omega)]) | (rw [if_neg (by omega)])
      refine Eq.mpr (congrArg (fun z : Int => Ev X 0 0 (d + 4) mX0_choose 89 [some (rv 43), some (rv 1), some (iv g), some (iv (σ.1 2 g)), some (iv (tp0 (σ.1 1 7) (σ.1 2 g))), some (iv a), some (iv z), some (iv 0), x8, x9] [] τ _) et) ?_
      refine l_chB_1 ho g hg hot hVr bf z0 z1 z2 (tp0 (σ.1 1 7) (σ.1 2 g)) a ⟨by omega, by omega, by omega⟩ (brOf τ) (fun τ' x7' x8' x9' hI' hB' => ?_) (tp1 (σ.1 1 7) (σ.1 2 g) a + 2).toNat 0 τ _ _ (by omega) (by unfold tp1; split <;> omega) (by unfold tp1; split <;> omega) hI rfl
      refine e_iinc (pc' := 154) (L' := [some (rv 43), some (rv 1), some (iv g), some (iv (σ.1 2 g)), some (iv (tp0 (σ.1 1 7) (σ.1 2 g))), some (iv (a + 1)), some (iv (tp1 (σ.1 1 7) (σ.1 2 g) a)), x7', x8', x9']) dX0_choose_151 rfl rfl (by decide) rfl ?_
      refine e_goto (pc' := 61) dX0_choose_154 (by decide) ?_
      exact ih _ _ _ _ _ _ (by omega) (by omega) (by omega) hI' (by rw [fdZ_s _ (by omega), hB', hB]; rfl)
    · refine e_iload_n (pc' := 77) dX0_choose_76 rfl rfl ?_
      refine e_iload (pc' := 79) dX0_choose_77 rfl rfl ?_
      refine e_isub (pc' := 80) dX0_choose_79 rfl ?_
      refine e_goto (pc' := 84) dX0_choose_80 (by decide) ?_
      refine e_istore (pc' := 86) (L' := [some (rv 43), some (rv 1), some (iv g), some (iv (σ.1 2 g)), some (iv (tp0 (σ.1 1 7) (σ.1 2 g))), some (iv a), some (iv ((σ.1 2 g) - a)), x7, x8, x9]) dX0_choose_84 rfl (by decide) rfl ?_
      refine e_iconst (pc' := 87) dX0_choose_86 rfl ?_
      refine e_istore (pc' := 89) (L' := [some (rv 43), some (rv 1), some (iv g), some (iv (σ.1 2 g)), some (iv (tp0 (σ.1 1 7) (σ.1 2 g))), some (iv a), some (iv ((σ.1 2 g) - a)), some (iv 0), x8, x9]) dX0_choose_87 rfl (by decide) rfl ?_
      have et : ((σ.1 2 g) - a) = tp1 (σ.1 1 7) (σ.1 2 g) a := by unfold tp1; first | (rw [if_pos (by omega)]) | (rw [if_neg (by omega)])
      refine Eq.mpr (congrArg (fun z : Int => Ev X 0 0 (d + 4) mX0_choose 89 [some (rv 43), some (rv 1), some (iv g), some (iv (σ.1 2 g)), some (iv (tp0 (σ.1 1 7) (σ.1 2 g))), some (iv a), some (iv z), some (iv 0), x8, x9] [] τ _) et) ?_
      refine l_chB_1 ho g hg hot hVr bf z0 z1 z2 (tp0 (σ.1 1 7) (σ.1 2 g)) a ⟨by omega, by omega, by omega⟩ (brOf τ) (fun τ' x7' x8' x9' hI' hB' => ?_) (tp1 (σ.1 1 7) (σ.1 2 g) a + 2).toNat 0 τ _ _ (by omega) (by unfold tp1; split <;> omega) (by unfold tp1; split <;> omega) hI rfl
      refine e_iinc (pc' := 154) (L' := [some (rv 43), some (rv 1), some (iv g), some (iv (σ.1 2 g)), some (iv (tp0 (σ.1 1 7) (σ.1 2 g))), some (iv (a + 1)), some (iv (tp1 (σ.1 1 7) (σ.1 2 g) a)), x7', x8', x9']) dX0_choose_151 rfl rfl (by decide) rfl ?_
      refine e_goto (pc' := 61) dX0_choose_154 (by decide) ?_
      exact ih _ _ _ _ _ _ (by omega) (by omega) (by omega) hI' (by rw [fdZ_s _ (by omega), hB', hB]; rfl)

theorem sameScA_17 {σ τ : SG} (h : Fr [37, 38, 39, 40, 41, 42, 43, 44, 45, 46] σ τ) : SameSc σ τ 17 := fun k h1 h2 => (h k (by simp only [List.mem_cons, List.not_mem_nil, or_false]; omega)).1

set_option maxHeartbeats 4000000 in
set_option maxRecDepth 100000 in
theorem l_chC_17 {X : AX} {d : Nat} {σ : SG} (ho : ScOK σ 17) (g : Int) (hg : 0 ≤ g ∧ g < 5) (hot : ∀ w, 0 ≤ w → w < 3 → 0 ≤ gfS σ 17 w - σ.1 22 (g * 3 + w) ∧ gfS σ 17 w - σ.1 22 (g * 3 + w) ≤ 100) (hVr : ∀ x y z, 0 ≤ x → 0 ≤ y → 0 ≤ z → x + y + z ≤ (σ.1 18 g) → rg (bvS σ 17 g x y z)) (bf z0 z1 z2 : Int) (t0 t1 a y : Int) (hra : 0 ≤ a ∧ (0 < (σ.1 17 7) ∨ a = 0) ∧ a ≤ (σ.1 18 g)) (hry : 0 ≤ y ∧ (1 < (σ.1 17 7) ∨ y = 0) ∧ a + y ≤ (σ.1 18 g)) (t : BR) (hK : ∀ (τ : SG) (x9 : Option AV), (Fr [37, 38, 39, 40, 41, 42, 43, 44, 45, 46] σ τ ∧ FsI σ τ 17 g ∧ τ.1 43 5 = bf ∧ rg (τ.1 43 4)) → brOf τ = fdZ (bsC (bvS σ 17 g) a y) ((tp2 (σ.1 17 7) (σ.1 18 g) a y) + 1) t → Ev X 0 0 (d + 4) mX0_choose 145 [some (rv 43), some (rv 17), some (iv g), some (iv (σ.1 18 g)), some (iv t0), some (iv a), some (iv t1), some (iv y), some (iv (tp2 (σ.1 17 7) (σ.1 18 g) a y)), x9] [] τ (QV (fun σ' => brOf σ' = bsS (bvS σ 17 g) (σ.1 17 7) (σ.1 18 g) (-1, z0, z1, z2) ∧ σ'.1 43 5 = bf ∧ Fr [37, 38, 39, 40, 41, 42, 43, 44, 45, 46] σ σ'))) : ∀ (k : Nat) (n : Int) (τ : SG), 0 ≤ n → n ≤ (tp2 (σ.1 17 7) (σ.1 18 g) a y) + 1 → (tp2 (σ.1 17 7) (σ.1 18 g) a y) + 1 - n < k → (Fr [37, 38, 39, 40, 41, 42, 43, 44, 45, 46] σ τ ∧ FsI σ τ 17 g ∧ τ.1 43 5 = bf ∧ rg (τ.1 43 4)) → brOf τ = fdZ (bsC (bvS σ 17 g) a y) n t → Ev X 0 0 (d + 4) mX0_choose 120 [some (rv 43), some (rv 17), some (iv g), some (iv (σ.1 18 g)), some (iv t0), some (iv a), some (iv t1), some (iv y), some (iv (tp2 (σ.1 17 7) (σ.1 18 g) a y)), some (iv n)] [] τ (QV (fun σ' => brOf σ' = bsS (bvS σ 17 g) (σ.1 17 7) (σ.1 18 g) (-1, z0, z1, z2) ∧ σ'.1 43 5 = bf ∧ Fr [37, 38, 39, 40, 41, 42, 43, 44, 45, 46] σ σ')) := by
  intro k
  induction k with
  | zero => intros; omega
  | succ k ih =>
  intro n τ hn0 hn1 hnk hI hB
  have h7 := ho.2.1
  have hco : 0 ≤ (σ.1 18 g) ∧ (σ.1 18 g) ≤ 12 := ho.2.2.2.2.2.2.2.2.2.2.1 g hg.1 hg.2
  have hoτ : ScOK τ 17 := ho.cg (sameScA_17 hI.1)
  have ht2 : (tp2 (σ.1 17 7) (σ.1 18 g) a y) = (if (σ.1 17 7) ≤ 2 then 0 else (σ.1 18 g) - a - y) := rfl
  have ht2r : 0 ≤ (tp2 (σ.1 17 7) (σ.1 18 g) a y) ∧ (tp2 (σ.1 17 7) (σ.1 18 g) a y) ≤ 12 ∧ (2 < (σ.1 17 7) ∨ (tp2 (σ.1 17 7) (σ.1 18 g) a y) = 0) ∧ a + y + (tp2 (σ.1 17 7) (σ.1 18 g) a y) ≤ (σ.1 18 g) := by rw [ht2]; split <;> omega
  refine e_iload (pc' := 122) dX0_choose_120 rfl rfl ?_
  refine e_iload (pc' := 124) dX0_choose_122 rfl rfl ?_
  refine e_icmpI (pc' := 127) (t := 145) dX0_choose_124 (by decide) rfl ⟨by omega, by omega⟩ ⟨by omega, by omega⟩ (fun (c2_1 : (tp2 (σ.1 17 7) (σ.1 18 g) a y) < (n : Int)) => ?_) (fun (c2_1 : ¬ ((tp2 (σ.1 17 7) (σ.1 18 g) a y) < (n : Int))) => ?_)
  · exact hK τ _ hI (by rw [hB]; congr 1; omega)
  · have hn2 : n ≤ (tp2 (σ.1 17 7) (σ.1 18 g) a y) := by omega
    have hv := wv_bv (a := a) (b := y) (c := n) (sameScA_17 hI.1) hI.2.1 (show 0 ≤ a ∧ (if 0 < σ.1 17 7 then a ≤ σ.1 18 g else a = 0) from ⟨by omega, by split <;> omega⟩) (show 0 ≤ y ∧ (if 1 < σ.1 17 7 then y ≤ σ.1 18 g else y = 0) from ⟨by omega, by split <;> omega⟩) (show 0 ≤ n ∧ (if 2 < σ.1 17 7 then n ≤ σ.1 18 g else n = 0) from ⟨by omega, by split <;> omega⟩)
    refine e_aload_n (pc' := 128) dX0_choose_127 rfl rfl ?_
    refine e_aload_n (pc' := 129) dX0_choose_128 rfl rfl ?_
    refine e_iload_n (pc' := 130) dX0_choose_129 rfl rfl ?_
    refine e_iload (pc' := 132) dX0_choose_130 rfl rfl ?_
    refine e_iload (pc' := 134) dX0_choose_132 rfl rfl ?_
    refine e_iload (pc' := 136) dX0_choose_134 rfl rfl ?_
    refine e_cv5v (pc' := 139) dX0_choose_136 rfl k_0_58 h_43 rfl (Nat.le_of_ble_eq_true rfl) rfl rfl ⟨rfl, rfl⟩ ⟨Nat.zero_le _, Nat.zero_le _⟩ (s_weigh_17 (σ := τ) hoτ (fun w p q => by rw [hI.2.1.1 w p q]; exact hot w p q) g a y n (by rw [hv.2.1]; exact wbS_rg _ _ _ _ _) (by rw [hv.2.2.1]; exact wbS_rg _ _ _ _ _) (by rw [hv.2.2.2]; exact wbS_rg _ _ _ _ _) hg ⟨by omega, by omega⟩ ⟨by omega, by omega⟩ ⟨by omega, by omega⟩ hI.2.2.2 (by rw [hv.1]; exact hVr a y n (by omega) (by omega) (by omega) (by omega))) ?_
    rintro τ2 ⟨hb2, h52, hG2⟩
    rw [hv.1] at hb2
    refine e_iinc (pc' := 142) (L' := [some (rv 43), some (rv 17), some (iv g), some (iv (σ.1 18 g)), some (iv t0), some (iv a), some (iv t1), some (iv y), some (iv (tp2 (σ.1 17 7) (σ.1 18 g) a y)), some (iv (n + 1))]) dX0_choose_139 rfl rfl (by decide) rfl ?_
    refine e_goto (pc' := 120) dX0_choose_142 (by decide) ?_
    refine ih _ _ (by omega) (by omega) (by omega) ⟨hI.1.tr (hG2.mono (by decide)), hI.2.1.fr (hG2 44 (by decide)).1 (hG2 45 (by decide)).1, h52.trans hI.2.2.1, ?_⟩ (by rw [fdZ_s _ (by omega), hb2, hB]; rfl)
    have hq : τ2.1 43 4 = (updB (brOf τ) (bvS σ 17 g a y n) a y n).1 := congrArg Prod.fst hb2
    rw [hq]
    unfold updB
    split
    · exact hVr a y n (by omega) (by omega) (by omega) (by omega)
    · exact hI.2.2.2

set_option maxHeartbeats 4000000 in
set_option maxRecDepth 100000 in
theorem l_chB_17 {X : AX} {d : Nat} {σ : SG} (ho : ScOK σ 17) (g : Int) (hg : 0 ≤ g ∧ g < 5) (hot : ∀ w, 0 ≤ w → w < 3 → 0 ≤ gfS σ 17 w - σ.1 22 (g * 3 + w) ∧ gfS σ 17 w - σ.1 22 (g * 3 + w) ≤ 100) (hVr : ∀ x y z, 0 ≤ x → 0 ≤ y → 0 ≤ z → x + y + z ≤ (σ.1 18 g) → rg (bvS σ 17 g x y z)) (bf z0 z1 z2 : Int) (t0 a : Int) (hra : 0 ≤ a ∧ (0 < (σ.1 17 7) ∨ a = 0) ∧ a ≤ (σ.1 18 g)) (t : BR) (hK : ∀ (τ : SG) (x7 x8 x9 : Option AV), (Fr [37, 38, 39, 40, 41, 42, 43, 44, 45, 46] σ τ ∧ FsI σ τ 17 g ∧ τ.1 43 5 = bf ∧ rg (τ.1 43 4)) → brOf τ = fdZ (bsB (bvS σ 17 g) (σ.1 17 7) (σ.1 18 g) a) ((tp1 (σ.1 17 7) (σ.1 18 g) a) + 1) t → Ev X 0 0 (d + 4) mX0_choose 151 [some (rv 43), some (rv 17), some (iv g), some (iv (σ.1 18 g)), some (iv t0), some (iv a), some (iv (tp1 (σ.1 17 7) (σ.1 18 g) a)), x7, x8, x9] [] τ (QV (fun σ' => brOf σ' = bsS (bvS σ 17 g) (σ.1 17 7) (σ.1 18 g) (-1, z0, z1, z2) ∧ σ'.1 43 5 = bf ∧ Fr [37, 38, 39, 40, 41, 42, 43, 44, 45, 46] σ σ'))) : ∀ (k : Nat) (y : Int) (τ : SG) (x8 x9 : Option AV), 0 ≤ y → y ≤ (tp1 (σ.1 17 7) (σ.1 18 g) a) + 1 → (tp1 (σ.1 17 7) (σ.1 18 g) a) + 1 - y < k → (Fr [37, 38, 39, 40, 41, 42, 43, 44, 45, 46] σ τ ∧ FsI σ τ 17 g ∧ τ.1 43 5 = bf ∧ rg (τ.1 43 4)) → brOf τ = fdZ (bsB (bvS σ 17 g) (σ.1 17 7) (σ.1 18 g) a) y t → Ev X 0 0 (d + 4) mX0_choose 89 [some (rv 43), some (rv 17), some (iv g), some (iv (σ.1 18 g)), some (iv t0), some (iv a), some (iv (tp1 (σ.1 17 7) (σ.1 18 g) a)), some (iv y), x8, x9] [] τ (QV (fun σ' => brOf σ' = bsS (bvS σ 17 g) (σ.1 17 7) (σ.1 18 g) (-1, z0, z1, z2) ∧ σ'.1 43 5 = bf ∧ Fr [37, 38, 39, 40, 41, 42, 43, 44, 45, 46] σ σ')) := by
  intro k
  induction k with
  | zero => intros; omega
  | succ k ih =>
  intro y τ x8 x9 hy0 hy1 hyk hI hB
  have h7 := ho.2.1
  have hco : 0 ≤ (σ.1 18 g) ∧ (σ.1 18 g) ≤ 12 := ho.2.2.2.2.2.2.2.2.2.2.1 g hg.1 hg.2
  have ht1 : (tp1 (σ.1 17 7) (σ.1 18 g) a) = (if (σ.1 17 7) ≤ 1 then 0 else (σ.1 18 g) - a) := rfl
  have ht1r : 0 ≤ (tp1 (σ.1 17 7) (σ.1 18 g) a) ∧ (tp1 (σ.1 17 7) (σ.1 18 g) a) ≤ 12 ∧ (1 < (σ.1 17 7) ∨ (tp1 (σ.1 17 7) (σ.1 18 g) a) = 0) ∧ a + (tp1 (σ.1 17 7) (σ.1 18 g) a) ≤ (σ.1 18 g) := by rw [ht1]; split <;> omega
  refine e_iload (pc' := 91) dX0_choose_89 rfl rfl ?_
  refine e_iload (pc' := 93) dX0_choose_91 rfl rfl ?_
  refine e_icmpI (pc' := 96) (t := 151) dX0_choose_93 (by decide) rfl ⟨by omega, by omega⟩ ⟨by omega, by omega⟩ (fun (c2_1 : (tp1 (σ.1 17 7) (σ.1 18 g) a) < (y : Int)) => ?_) (fun (c2_1 : ¬ ((tp1 (σ.1 17 7) (σ.1 18 g) a) < (y : Int))) => ?_)
  · exact hK τ _ _ _ hI (by rw [hB]; congr 1; omega)
  · refine e_aload_n (pc' := 97) dX0_choose_96 rfl rfl ?_
    refine e_getI (pc' := 100) (v := (σ.1 17 7)) dX0_choose_97 rfl f_0_55 h_17 rfl ((congrFun (hI.1 17 (by decide)).1 7).trans rfl) ?_
    refine e_iconst (pc' := 101) dX0_choose_100 rfl ?_
    refine e_icmpI (pc' := 104) (t := 114) dX0_choose_101 (by decide) rfl ⟨by omega, by omega⟩ ⟨by omega, by omega⟩ (fun (c4_2 : ((σ.1 17 7) : Int) ≤ 2) => ?_) (fun (c4_2 : ¬ (((σ.1 17 7) : Int) ≤ 2)) => ?_)
    · refine e_iconst (pc' := 115) dX0_choose_114 rfl ?_
      refine e_istore (pc' := 117) (L' := [some (rv 43), some (rv 17), some (iv g), some (iv (σ.1 18 g)), some (iv t0), some (iv a), some (iv (tp1 (σ.1 17 7) (σ.1 18 g) a)), some (iv y), some (iv 0), x9]) dX0_choose_115 rfl (by decide) rfl ?_
      refine e_iconst (pc' := 118) dX0_choose_117 rfl ?_
      refine e_istore (pc' := 120) (L' := [some (rv 43), some (rv 17), some (iv g), some (iv (σ.1 18 g)), some (iv t0), some (iv a), some (iv (tp1 (σ.1 17 7) (σ.1 18 g) a)), some (iv y), some (iv 0), some (iv 0)]) dX0_choose_118 rfl (by decide) rfl ?_
      have et : 0 = tp2 (σ.1 17 7) (σ.1 18 g) a y := by unfold tp2; first | (rw [if_pos (by omega)]) | (rw [if_neg (by omega)])
      refine Eq.mpr (congrArg (fun z : Int => Ev X 0 0 (d + 4) mX0_choose 120 [some (rv 43), some (rv 17), some (iv g), some (iv (σ.1 18 g)), some (iv t0), some (iv a), some (iv (tp1 (σ.1 17 7) (σ.1 18 g) a)), some (iv y), some (iv z), some (iv 0)] [] τ _) et) ?_
      refine l_chC_17 ho g hg hot hVr bf z0 z1 z2 t0 (tp1 (σ.1 17 7) (σ.1 18 g) a) a y ⟨by omega, by omega, by omega⟩ ⟨by omega, by omega, by omega⟩ (brOf τ) (fun τ' x9 hI' hB' => ?_) (tp2 (σ.1 17 7) (σ.1 18 g) a y + 2).toNat 0 τ (by omega) (by unfold tp2; split <;> omega) (by unfold tp2; split <;> omega) hI rfl
      refine e_iinc (pc' := 148) (L' := [some (rv 43), some (rv 17), some (iv g), some (iv (σ.1 18 g)), some (iv t0), some (iv a), some (iv (tp1 (σ.1 17 7) (σ.1 18 g) a)), some (iv (y + 1)), some (iv (tp2 (σ.1 17 7) (σ.1 18 g) a y)), x9]) dX0_choose_145 rfl rfl (by decide) rfl ?_
      refine e_goto (pc' := 89) dX0_choose_148 (by decide) ?_
      exact ih _ _ _ _ (by omega) (by omega) (by omega) hI' (by rw [fdZ_s _ (by omega), hB', hB]; rfl)
    · refine e_iload_n (pc' := 105) dX0_choose_104 rfl rfl ?_
      refine e_iload (pc' := 107) dX0_choose_105 rfl rfl ?_
      refine e_isub (pc' := 108) dX0_choose_107 rfl ?_
      refine e_iload (pc' := 110) dX0_choose_108 rfl rfl ?_
      refine e_isub (pc' := 111) dX0_choose_110 rfl ?_
      refine e_goto (pc' := 115) dX0_choose_111 (by decide) ?_
      refine e_istore (pc' := 117) (L' := [some (rv 43), some (rv 17), some (iv g), some (iv (σ.1 18 g)), some (iv t0), some (iv a), some (iv (tp1 (σ.1 17 7) (σ.1 18 g) a)), some (iv y), some (iv (((σ.1 18 g) - a) - y)), x9]) dX0_choose_115 rfl (by decide) rfl ?_
      refine e_iconst (pc' := 118) dX0_choose_117 rfl ?_
      refine e_istore (pc' := 120) (L' := [some (rv 43), some (rv 17), some (iv g), some (iv (σ.1 18 g)), some (iv t0), some (iv a), some (iv (tp1 (σ.1 17 7) (σ.1 18 g) a)), some (iv y), some (iv (((σ.1 18 g) - a) - y)), some (iv 0)]) dX0_choose_118 rfl (by decide) rfl ?_
      have et : (((σ.1 18 g) - a) - y) = tp2 (σ.1 17 7) (σ.1 18 g) a y := by unfold tp2; first | (rw [if_pos (by omega)]) | (rw [if_neg (by omega)])
      refine Eq.mpr (congrArg (fun z : Int => Ev X 0 0 (d + 4) mX0_choose 120 [some (rv 43), some (rv 17), some (iv g), some (iv (σ.1 18 g)), some (iv t0), some (iv a), some (iv (tp1 (σ.1 17 7) (σ.1 18 g) a)), some (iv y), some (iv z), some (iv 0)] [] τ _) et) ?_
      refine l_chC_17 ho g hg hot hVr bf z0 z1 z2 t0 (tp1 (σ.1 17 7) (σ.1 18 g) a) a y ⟨by omega, by omega, by omega⟩ ⟨by omega, by omega, by omega⟩ (brOf τ) (fun τ' x9 hI' hB' => ?_) (tp2 (σ.1 17 7) (σ.1 18 g) a y + 2).toNat 0 τ (by omega) (by unfold tp2; split <;> omega) (by unfold tp2; split <;> omega) hI rfl
      refine e_iinc (pc' := 148) (L' := [some (rv 43), some (rv 17), some (iv g), some (iv (σ.1 18 g)), some (iv t0), some (iv a), some (iv (tp1 (σ.1 17 7) (σ.1 18 g) a)), some (iv (y + 1)), some (iv (tp2 (σ.1 17 7) (σ.1 18 g) a y)), x9]) dX0_choose_145 rfl rfl (by decide) rfl ?_
      refine e_goto (pc' := 89) dX0_choose_148 (by decide) ?_
      exact ih _ _ _ _ (by omega) (by omega) (by omega) hI' (by rw [fdZ_s _ (by omega), hB', hB]; rfl)

set_option maxHeartbeats 4000000 in
set_option maxRecDepth 100000 in
theorem l_chA_17 {X : AX} {d : Nat} {σ : SG} (ho : ScOK σ 17) (g : Int) (hg : 0 ≤ g ∧ g < 5) (hot : ∀ w, 0 ≤ w → w < 3 → 0 ≤ gfS σ 17 w - σ.1 22 (g * 3 + w) ∧ gfS σ 17 w - σ.1 22 (g * 3 + w) ≤ 100) (hVr : ∀ x y z, 0 ≤ x → 0 ≤ y → 0 ≤ z → x + y + z ≤ (σ.1 18 g) → rg (bvS σ 17 g x y z)) (bf z0 z1 z2 : Int) : ∀ (k : Nat) (a : Int) (τ : SG) (x6 x7 x8 x9 : Option AV), 0 ≤ a → a ≤ (tp0 (σ.1 17 7) (σ.1 18 g)) + 1 → (tp0 (σ.1 17 7) (σ.1 18 g)) + 1 - a < k → (Fr [37, 38, 39, 40, 41, 42, 43, 44, 45, 46] σ τ ∧ FsI σ τ 17 g ∧ τ.1 43 5 = bf ∧ rg (τ.1 43 4)) → brOf τ = fdZ (bsA (bvS σ 17 g) (σ.1 17 7) (σ.1 18 g)) a (-1, z0, z1, z2) → Ev X 0 0 (d + 4) mX0_choose 61 [some (rv 43), some (rv 17), some (iv g), some (iv (σ.1 18 g)), some (iv (tp0 (σ.1 17 7) (σ.1 18 g))), some (iv a), x6, x7, x8, x9] [] τ (QV (fun σ' => brOf σ' = bsS (bvS σ 17 g) (σ.1 17 7) (σ.1 18 g) (-1, z0, z1, z2) ∧ σ'.1 43 5 = bf ∧ Fr [37, 38, 39, 40, 41, 42, 43, 44, 45, 46] σ σ')) := by
  intro k
  induction k with
  | zero => intros; omega
  | succ k ih =>
  intro a τ x6 x7 x8 x9 ha0 ha1 hak hI hB
  have h7 := ho.2.1
  have hco : 0 ≤ (σ.1 18 g) ∧ (σ.1 18 g) ≤ 12 := ho.2.2.2.2.2.2.2.2.2.2.1 g hg.1 hg.2
  have ht0 : (tp0 (σ.1 17 7) (σ.1 18 g)) = (if (σ.1 17 7) ≤ 0 then 0 else (σ.1 18 g)) := rfl
  have ht0r : 0 ≤ (tp0 (σ.1 17 7) (σ.1 18 g)) ∧ (tp0 (σ.1 17 7) (σ.1 18 g)) ≤ 12 ∧ (0 < (σ.1 17 7) ∨ (tp0 (σ.1 17 7) (σ.1 18 g)) = 0) ∧ (tp0 (σ.1 17 7) (σ.1 18 g)) ≤ (σ.1 18 g) := by rw [ht0]; split <;> omega
  refine e_iload (pc' := 63) dX0_choose_61 rfl rfl ?_
  refine e_iload (pc' := 65) dX0_choose_63 rfl rfl ?_
  refine e_icmpI (pc' := 68) (t := 157) dX0_choose_65 (by decide) rfl ⟨by omega, by omega⟩ ⟨by omega, by omega⟩ (fun (c2_1 : (tp0 (σ.1 17 7) (σ.1 18 g)) < (a : Int)) => ?_) (fun (c2_1 : ¬ ((tp0 (σ.1 17 7) (σ.1 18 g)) < (a : Int))) => ?_)
  · exact e_vret dX0_choose_157 rfl ⟨rfl, Nat.le_refl _⟩ ⟨rfl, by rw [hB]; unfold bsS; congr 1; omega, hI.2.2.1, hI.1⟩
  · refine e_aload_n (pc' := 69) dX0_choose_68 rfl rfl ?_
    refine e_getI (pc' := 72) (v := (σ.1 17 7)) dX0_choose_69 rfl f_0_55 h_17 rfl ((congrFun (hI.1 17 (by decide)).1 7).trans rfl) ?_
    refine e_iconst (pc' := 73) dX0_choose_72 rfl ?_
    refine e_icmpI (pc' := 76) (t := 83) dX0_choose_73 (by decide) rfl ⟨by omega, by omega⟩ ⟨by omega, by omega⟩ (fun (c4_2 : ((σ.1 17 7) : Int) ≤ 1) => ?_) (fun (c4_2 : ¬ (((σ.1 17 7) : Int) ≤ 1)) => ?_)
    · refine e_iconst (pc' := 84) dX0_choose_83 rfl ?_
      refine e_istore (pc' := 86) (L' := [some (rv 43), some (rv 17), some (iv g), some (iv (σ.1 18 g)), some (iv (tp0 (σ.1 17 7) (σ.1 18 g))), some (iv a), some (iv 0), x7, x8, x9]) dX0_choose_84 rfl (by decide) rfl ?_
      refine e_iconst (pc' := 87) dX0_choose_86 rfl ?_
      refine e_istore (pc' := 89) (L' := [some (rv 43), some (rv 17), some (iv g), some (iv (σ.1 18 g)), some (iv (tp0 (σ.1 17 7) (σ.1 18 g))), some (iv a), some (iv 0), some (iv 0), x8, x9]) dX0_choose_87 rfl (by decide) rfl ?_
      have et : 0 = tp1 (σ.1 17 7) (σ.1 18 g) a := by unfold tp1; first | (rw [if_pos (by omega)]) | (rw [if_neg (by omega)])
      refine Eq.mpr (congrArg (fun z : Int => Ev X 0 0 (d + 4) mX0_choose 89 [some (rv 43), some (rv 17), some (iv g), some (iv (σ.1 18 g)), some (iv (tp0 (σ.1 17 7) (σ.1 18 g))), some (iv a), some (iv z), some (iv 0), x8, x9] [] τ _) et) ?_
      refine l_chB_17 ho g hg hot hVr bf z0 z1 z2 (tp0 (σ.1 17 7) (σ.1 18 g)) a ⟨by omega, by omega, by omega⟩ (brOf τ) (fun τ' x7' x8' x9' hI' hB' => ?_) (tp1 (σ.1 17 7) (σ.1 18 g) a + 2).toNat 0 τ _ _ (by omega) (by unfold tp1; split <;> omega) (by unfold tp1; split <;> omega) hI rfl
      refine e_iinc (pc' := 154) (L' := [some (rv 43), some (rv 17), some (iv g), some (iv (σ.1 18 g)), some (iv (tp0 (σ.1 17 7) (σ.1 18 g))), some (iv (a + 1)), some (iv (tp1 (σ.1 17 7) (σ.1 18 g) a)), x7', x8', x9']) dX0_choose_151 rfl rfl (by decide) rfl ?_
      refine e_goto (pc' := 61) dX0_choose_154 (by decide) ?_
      exact ih _ _ _ _ _ _ (by omega) (by omega) (by omega) hI' (by rw [fdZ_s _ (by omega), hB', hB]; rfl)
    · refine e_iload_n (pc' := 77) dX0_choose_76 rfl rfl ?_
      refine e_iload (pc' := 79) dX0_choose_77 rfl rfl ?_
      refine e_isub (pc' := 80) dX0_choose_79 rfl ?_
      refine e_goto (pc' := 84) dX0_choose_80 (by decide) ?_
      refine e_istore (pc' := 86) (L' := [some (rv 43), some (rv 17), some (iv g), some (iv (σ.1 18 g)), some (iv (tp0 (σ.1 17 7) (σ.1 18 g))), some (iv a), some (iv ((σ.1 18 g) - a)), x7, x8, x9]) dX0_choose_84 rfl (by decide) rfl ?_
      refine e_iconst (pc' := 87) dX0_choose_86 rfl ?_
      refine e_istore (pc' := 89) (L' := [some (rv 43), some (rv 17), some (iv g), some (iv (σ.1 18 g)), some (iv (tp0 (σ.1 17 7) (σ.1 18 g))), some (iv a), some (iv ((σ.1 18 g) - a)), some (iv 0), x8, x9]) dX0_choose_87 rfl (by decide) rfl ?_
      have et : ((σ.1 18 g) - a) = tp1 (σ.1 17 7) (σ.1 18 g) a := by unfold tp1; first | (rw [if_pos (by omega)]) | (rw [if_neg (by omega)])
      refine Eq.mpr (congrArg (fun z : Int => Ev X 0 0 (d + 4) mX0_choose 89 [some (rv 43), some (rv 17), some (iv g), some (iv (σ.1 18 g)), some (iv (tp0 (σ.1 17 7) (σ.1 18 g))), some (iv a), some (iv z), some (iv 0), x8, x9] [] τ _) et) ?_
      refine l_chB_17 ho g hg hot hVr bf z0 z1 z2 (tp0 (σ.1 17 7) (σ.1 18 g)) a ⟨by omega, by omega, by omega⟩ (brOf τ) (fun τ' x7' x8' x9' hI' hB' => ?_) (tp1 (σ.1 17 7) (σ.1 18 g) a + 2).toNat 0 τ _ _ (by omega) (by unfold tp1; split <;> omega) (by unfold tp1; split <;> omega) hI rfl
      refine e_iinc (pc' := 154) (L' := [some (rv 43), some (rv 17), some (iv g), some (iv (σ.1 18 g)), some (iv (tp0 (σ.1 17 7) (σ.1 18 g))), some (iv (a + 1)), some (iv (tp1 (σ.1 17 7) (σ.1 18 g) a)), x7', x8', x9']) dX0_choose_151 rfl rfl (by decide) rfl ?_
      refine e_goto (pc' := 61) dX0_choose_154 (by decide) ?_
      exact ih _ _ _ _ _ _ (by omega) (by omega) (by omega) hI' (by rw [fdZ_s _ (by omega), hB', hB]; rfl)
