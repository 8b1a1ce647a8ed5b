/-! the reference: a giver's best row -/
def FbI (σ τ ρ : SG) (b : Nat) (g : Int) : Prop := Fr [88, 89, 92, 93, 94, 95, 96, 97, 98, 99, 101, 102] σ τ ∧ KA σ τ ∧ RtI τ ∧ (∀ j, ¬ (35 + g * 3 ≤ j ∧ j < 35 + g * 3 + 3) → τ.1 89 j = σ.1 89 j) ∧ ∀ i, 0 ≤ i → i < 3 → τ.1 102 i = ρ.1 (b + 5) (g * 3 + i)
def brM (τ : SG) (most : Int) : BR := (most, τ.1 101 0, τ.1 101 1, τ.1 101 2)
theorem rwN_off {N N' : Int → Int} {g x y z : Int} (h : ∀ j, ¬ (35 + g * 3 ≤ j ∧ j < 35 + g * 3 + 3) → N' j = N j) : rwN N' g x y z = rwN N g x y z := by
  funext j
  unfold rwN
  split
  · rfl
  · next q => exact h j q
theorem rwN_back {N N' : Int → Int} {ρ : SG} {b : Nat} (hP : MrP N ρ b) {g x y z : Int} (hg : 0 ≤ g ∧ g < 5) (h : ∀ j, ¬ (35 + g * 3 ≤ j ∧ j < 35 + g * 3 + 3) → N' j = N j) (h0 : x = ρ.1 (b + 5) (g * 3 + 0)) (h1 : y = ρ.1 (b + 5) (g * 3 + 1)) (h2 : z = ρ.1 (b + 5) (g * 3 + 2)) : rwN N' g x y z = N := by
  funext j
  unfold rwN
  by_cases q : 35 + g * 3 ≤ j ∧ j < 35 + g * 3 + 3
  · rw [if_pos q]
    have e := (hP.2.2.2 (j - 35) (by omega) (by omega)).2.2
    rw [show 35 + (j - 35) = j by omega] at e
    rw [e]
    rcases row_w (x := x) (y := y) (z := z) (w := j - (35 + g * 3)) ⟨by omega, by omega⟩ with r | r | r
    · rw [r.1, h0, show j - 35 = g * 3 + 0 by omega]
    · rw [r.1, h1, show j - 35 = g * 3 + 1 by omega]
    · rw [r.1, h2, show j - 35 = g * 3 + 2 by omega]
  · rw [if_neg q]
    exact h j q
theorem row3 {N : Int → Int} {g x y z : Int} : updA (updA (updA N (35 + 3 * g) x) (35 + 3 * g + 1) y) (35 + 3 * g + 2) z = rwN N g x y z := by
  funext j
  unfold updA rwN
  by_cases h2 : j = 35 + 3 * g + 2
  · rw [if_pos h2, if_pos (by omega), show j - (35 + g * 3) = 2 by omega]; rfl
  · rw [if_neg h2]
    by_cases h1 : j = 35 + 3 * g + 1
    · rw [if_pos h1, if_pos (by omega), show j - (35 + g * 3) = 1 by omega]; rfl
    · rw [if_neg h1]
      by_cases h0 : j = 35 + 3 * g
      · rw [if_pos h0, if_pos (by omega), show j - (35 + g * 3) = 0 by omega]; rfl
      · rw [if_neg h0, if_neg (by omega)]

set_option maxHeartbeats 4000000 in
set_option maxRecDepth 100000 in
theorem s_m_setRow {X : AX} {d : Nat} {σ : SG} (g x y z : Int) (hg : 0 ≤ g ∧ g < 5) : Ev X 0 0 d mX11_setRow 0 [some (rv 88), some (iv g), some (iv x), some (iv y), some (iv z)] [] σ (QV (fun σ' => σ'.1 89 = rwN (σ.1 89) g x y z ∧ Fr [89] σ σ')) := by
  refine e_aload_n (pc' := 1) dX11_setRow_0 rfl rfl ?_
  refine e_getR (pc' := 4) dX11_setRow_1 rfl f_11_7 h_88 rfl ?_
  refine e_bipush (pc' := 6) (z := 35) dX11_setRow_4 rfl (by decide) ?_
  refine e_iconst (pc' := 7) dX11_setRow_6 rfl ?_
  refine e_iload_n (pc' := 8) dX11_setRow_7 rfl rfl ?_
  refine e_imul (pc' := 9) dX11_setRow_8 rfl ?_
  refine e_iadd (pc' := 10) dX11_setRow_9 rfl ?_
  refine e_iload_n (pc' := 11) dX11_setRow_10 rfl rfl ?_
  refine e_iast (pc' := 12) dX11_setRow_11 rfl h_89 (by decide) (by omega) (by omega) ?_
  refine e_aload_n (pc' := 13) dX11_setRow_12 rfl rfl ?_
  refine e_getR (pc' := 16) dX11_setRow_13 rfl f_11_7 h_88 rfl ?_
  refine e_bipush (pc' := 18) (z := 35) dX11_setRow_16 rfl (by decide) ?_
  refine e_iconst (pc' := 19) dX11_setRow_18 rfl ?_
  refine e_iload_n (pc' := 20) dX11_setRow_19 rfl rfl ?_
  refine e_imul (pc' := 21) dX11_setRow_20 rfl ?_
  refine e_iadd (pc' := 22) dX11_setRow_21 rfl ?_
  refine e_iconst (pc' := 23) dX11_setRow_22 rfl ?_
  refine e_iadd (pc' := 24) dX11_setRow_23 rfl ?_
  refine e_iload_n (pc' := 25) dX11_setRow_24 rfl rfl ?_
  refine e_iast (pc' := 26) dX11_setRow_25 rfl h_89 (by decide) (by omega) (by omega) ?_
  refine e_aload_n (pc' := 27) dX11_setRow_26 rfl rfl ?_
  refine e_getR (pc' := 30) dX11_setRow_27 rfl f_11_7 h_88 rfl ?_
  refine e_bipush (pc' := 32) (z := 35) dX11_setRow_30 rfl (by decide) ?_
  refine e_iconst (pc' := 33) dX11_setRow_32 rfl ?_
  refine e_iload_n (pc' := 34) dX11_setRow_33 rfl rfl ?_
  refine e_imul (pc' := 35) dX11_setRow_34 rfl ?_
  refine e_iadd (pc' := 36) dX11_setRow_35 rfl ?_
  refine e_iconst (pc' := 37) dX11_setRow_36 rfl ?_
  refine e_iadd (pc' := 38) dX11_setRow_37 rfl ?_
  refine e_iload (pc' := 40) dX11_setRow_38 rfl rfl ?_
  refine e_iast (pc' := 41) dX11_setRow_40 rfl h_89 (by decide) (by omega) (by omega) ?_
  exact e_vret dX11_setRow_41 rfl ⟨rfl, Nat.le_refl _⟩ ⟨rfl, by rw [upI_fn, upI_fn, upI_fn]; exact row3, (by repeat (first | exact Fr.rf | assumption | (refine fr_I ?_ (by decide)) | (refine fr_J ?_ (by decide)) | (refine fr_C ?_ (by decide))))⟩

set_option maxHeartbeats 4000000 in
set_option maxRecDepth 100000 in
theorem l_fbC {X : AX} {d : Nat} {σ ρ : SG} {b : Nat} {Q : Option AV → SG → Prop} (h : MdI σ ρ b) (g : Int) (hg : 0 ≤ g ∧ g < ρ.1 b 6) (a : Int) (ha : 0 ≤ a ∧ a ≤ (ρ.1 (b + 1) g) ∧ ((ρ.1 b 7) ≤ 0 → a = 0)) (y : Int) (hy : 0 ≤ y ∧ a + y ≤ (ρ.1 (b + 1) g) ∧ ((ρ.1 b 7) ≤ 1 → y = 0)) (t : BR) (hK : ∀ (τ : SG) (most : Int) (x6 x7 : Option AV), FbI σ τ ρ b g → (-1 ≤ most ∧ most ≤ 1000000) → brM τ most = fdZ (bsC (bvS ρ b g) a y) ((tp2 (ρ.1 b 7) (ρ.1 (b + 1) g) a y) + 1) t → Ev X 0 0 (d + 7) mX11_findBest 168 [some (rv 88), some (iv g), some (iv (ρ.1 (b + 1) g)), some (iv most), some (iv a), some (iv y), x6, x7] [] τ Q) : ∀ (k : Nat) (n most : Int) (τ : SG) (x7 : Option AV), 0 ≤ n → n ≤ (tp2 (ρ.1 b 7) (ρ.1 (b + 1) g) a y) + 1 → (tp2 (ρ.1 b 7) (ρ.1 (b + 1) g) a y) + 1 - n < k → FbI σ τ ρ b g → (-1 ≤ most ∧ most ≤ 1000000) → brM τ most = fdZ (bsC (bvS ρ b g) a y) n t → Ev X 0 0 (d + 7) mX11_findBest 83 [some (rv 88), some (iv g), some (iv (ρ.1 (b + 1) g)), some (iv most), some (iv a), some (iv y), some (iv n), x7] [] τ Q := by
  intro k
  induction k with
  | zero => intros; omega
  | succ k ih =>
  intro n most τ x7 hn0 hn1 hnk hI hmr hbr
  have ho := h.1
  have hX := h.2.1
  have hP := h.2.2.1
  have hG := ho.1
  have hW := ho.2.1
  have hco := ho.2.2.2.2.2.2.2.2.2.2.1 g hg.1 (by omega)
  have hN181 : τ.1 89 181 = (ρ.1 b 7) := (hI.2.2.2.1 181 (by omega)).trans hP.1.2.1
  have hch := ch_ok ho hX hg
  refine e_iload (pc' := 85) dX11_findBest_83 rfl rfl ?_
  refine e_aload_n (pc' := 86) dX11_findBest_85 rfl rfl ?_
  refine e_cv0i (pc' := 89) dX11_findBest_86 rfl k_11_84 h_88 rfl (Nat.le_of_ble_eq_true rfl) rfl rfl ⟨rfl, rfl⟩ ⟨Nat.zero_le _, Nat.zero_le _⟩ s_m_works ?_
  intro r σ' hr; rw [hr.1, hr.2, hN181]; clear hr
  refine e_iconst (pc' := 90) dX11_findBest_89 rfl ?_
  refine e_icmpI (pc' := 93) (t := 103) dX11_findBest_90 (by decide) rfl ⟨by omega, by omega⟩ ⟨by omega, by omega⟩ (fun (c2_1 : ((ρ.1 b 7) : Int) ≤ 2) => ?_) (fun (c2_1 : ¬ (((ρ.1 b 7) : Int) ≤ 2)) => ?_)
  · have htp : (tp2 (ρ.1 b 7) (ρ.1 (b + 1) g) a y) = 0 := if_pos c2_1
    refine e_iconst (pc' := 104) dX11_findBest_103 rfl ?_
    refine e_icmpI (pc' := 107) (t := 168) dX11_findBest_104 (by decide) rfl ⟨by omega, by omega⟩ ⟨by omega, by omega⟩ (fun (c4_2 : 0 < (n : Int)) => ?_) (fun (c4_2 : ¬ (0 < (n : Int))) => ?_)
    · exact hK τ most _ _ hI hmr (by rw [show (tp2 (ρ.1 b 7) (ρ.1 (b + 1) g) a y) + 1 = n by omega]; exact hbr)
    · refine e_aload_n (pc' := 108) dX11_findBest_107 rfl rfl ?_
      refine e_iload_n (pc' := 109) dX11_findBest_108 rfl rfl ?_
      refine e_iload (pc' := 111) dX11_findBest_109 rfl rfl ?_
      refine e_iload (pc' := 113) dX11_findBest_111 rfl rfl ?_
      refine e_iload (pc' := 115) dX11_findBest_113 rfl rfl ?_
      refine e_cv4v (pc' := 118) dX11_findBest_115 rfl k_11_220 h_88 rfl (Nat.le_of_ble_eq_true rfl) rfl rfl ⟨rfl, rfl⟩ ⟨Nat.zero_le _, Nat.zero_le _⟩ (s_m_setRow g a y n ⟨hg.1, by omega⟩) ?_
      rintro τ1 ⟨hN1, hE1⟩
      have hrw : rowOK ρ b g a y n := ⟨⟨by omega, by omega, by omega, by omega⟩, (fun q => by omega), (fun q => by omega), (fun q => by omega)⟩
      have hM1 : MdI τ1 (gU ρ b g (0, a, y, n)) b := MdI_row h hg hrw (hN1.trans (rwN_off hI.2.2.2.1)) (by rw [(hE1 100 (by decide)).1]; exact (hI.1 100 (by decide)).1) (hI.2.1.tr (by have e := (hE1 88 (by decide)).1; unfold KA; rw [e]; exact ⟨rfl, rfl, rfl⟩)) (RtI.fr hI.2.2.1 (hE1 96 (by decide)).2)
      have hbe : bfS (gU ρ b g (0, a, y, n)) b g = (bvS ρ b g) a y n := bf_bv ho hX hg hrw
      have hvr := hch.2.1 a y n hrw.1.1 hrw.1.2.1 hrw.1.2.2.1 hrw.1.2.2.2
      refine e_aload_n (pc' := 119) dX11_findBest_118 rfl rfl ?_
      refine e_cv0v (pc' := 122) dX11_findBest_119 rfl k_11_211 h_88 rfl (Nat.le_of_ble_eq_true rfl) rfl rfl ⟨rfl, rfl⟩ ⟨Nat.zero_le _, Nat.zero_le _⟩ (s_m_addUpN hM1) ?_
      rintro τ2 ⟨hL2, hE2, hK2, hM2⟩
      refine e_aload_n (pc' := 123) dX11_findBest_122 rfl rfl ?_
      refine e_iload_n (pc' := 124) dX11_findBest_123 rfl rfl ?_
      refine e_cv1i (pc' := 127) dX11_findBest_124 rfl k_11_214 h_88 rfl (Nat.le_of_ble_eq_true rfl) rfl rfl ⟨rfl, rfl⟩ ⟨Nat.zero_le _, Nat.zero_le _⟩ (s_m_hasN hM2 hL2 g ⟨hg.1, by omega⟩) ?_
      intro r σ' hr; rw [hr.1, hr.2, hbe]; clear hr
      refine e_istore (pc' := 129) (L' := [some (rv 88), some (iv g), some (iv (ρ.1 (b + 1) g)), some (iv most), some (iv a), some (iv y), some (iv n), some (iv ((bvS ρ b g) a y n))]) dX11_findBest_127 rfl (by decide) rfl ?_
      refine e_iload (pc' := 131) dX11_findBest_129 rfl rfl ?_
      refine e_iload_n (pc' := 132) dX11_findBest_131 rfl rfl ?_
      refine e_icmpI (pc' := 135) (t := 162) dX11_findBest_132 (by decide) rfl ⟨by omega, by omega⟩ ⟨by omega, by omega⟩ (fun (c6_3 : (((bvS ρ b g) a y n) : Int) ≤ most) => ?_) (fun (c6_3 : ¬ ((((bvS ρ b g) a y n) : Int) ≤ most)) => ?_)
      · refine e_iinc (pc' := 165) (L' := [some (rv 88), some (iv g), some (iv (ρ.1 (b + 1) g)), some (iv most), some (iv a), some (iv y), some (iv (n + 1)), some (iv ((bvS ρ b g) a y n))]) dX11_findBest_162 rfl rfl (by decide) rfl ?_
        refine e_goto (pc' := 83) dX11_findBest_165 (by decide) ?_
        have hFb : FbI σ τ2 ρ b g := by
          refine ⟨(hI.1.tr (hE1.mono (by decide))).tr (hE2.mono (by decide)), ?_, ?_, ?_, ?_⟩
          · exact (hI.2.1.tr (show KA τ τ1 by have e := (hE1 88 (by decide)).1; unfold KA; rw [e]; exact ⟨rfl, rfl, rfl⟩)).tr hK2
          · exact RtI.fr (σ := τ2) hM2.2.2.2.2.2.2.1 rfl
          · intro j hj
            have e : (τ2).1 89 j = τ2.1 89 j := rfl
            rw [e, (hE2 89 (by decide)).1, hN1]
            exact (if_neg hj).trans (hI.2.2.2.1 j hj)
          · intro i p q
            have e : (τ2).1 102 i = τ2.1 102 i := rfl
            rw [e, (hE2 102 (by decide)).1, (hE1 102 (by decide)).1]
            exact hI.2.2.2.2 i p q
        refine ih (n + 1) _ τ2 _ (by omega) (by omega) (by omega) hFb (by omega) ?_
        · have e101 : τ2.1 101 = τ.1 101 := by rw [(hE2 101 (by decide)).1, (hE1 101 (by decide)).1]
          show (most, τ2.1 101 0, τ2.1 101 1, τ2.1 101 2) = _
          rw [e101, fdZ_s _ hn0, ← hbr]
          show _ = updB (brM τ most) _ a y n
          unfold updB
          rw [if_neg (show ¬ (brM τ most).1 < bvS ρ b g a y n by show ¬ most < _; omega)]
          rfl
      · refine e_iload (pc' := 137) dX11_findBest_135 rfl rfl ?_
        refine e_istore_n (pc' := 138) (L' := [some (rv 88), some (iv g), some (iv (ρ.1 (b + 1) g)), some (iv ((bvS ρ b g) a y n)), some (iv a), some (iv y), some (iv n), some (iv ((bvS ρ b g) a y n))]) dX11_findBest_137 rfl (by decide) rfl ?_
        refine e_aload_n (pc' := 139) dX11_findBest_138 rfl rfl ?_
        refine e_getR (pc' := 142) dX11_findBest_139 rfl f_11_55 h_88 rfl ?_
        refine e_iconst (pc' := 143) dX11_findBest_142 rfl ?_
        refine e_iload (pc' := 145) dX11_findBest_143 rfl rfl ?_
        refine e_iast (pc' := 146) dX11_findBest_145 rfl h_101 (by decide) (by omega) (by omega) ?_
        refine e_aload_n (pc' := 147) dX11_findBest_146 rfl rfl ?_
        refine e_getR (pc' := 150) dX11_findBest_147 rfl f_11_55 h_88 rfl ?_
        refine e_iconst (pc' := 151) dX11_findBest_150 rfl ?_
        refine e_iload (pc' := 153) dX11_findBest_151 rfl rfl ?_
        refine e_iast (pc' := 154) dX11_findBest_153 rfl h_101 (by decide) (by omega) (by omega) ?_
        refine e_aload_n (pc' := 155) dX11_findBest_154 rfl rfl ?_
        refine e_getR (pc' := 158) dX11_findBest_155 rfl f_11_55 h_88 rfl ?_
        refine e_iconst (pc' := 159) dX11_findBest_158 rfl ?_
        refine e_iload (pc' := 161) dX11_findBest_159 rfl rfl ?_
        refine e_iast (pc' := 162) dX11_findBest_161 rfl h_101 (by decide) (by omega) (by omega) ?_
        refine e_iinc (pc' := 165) (L' := [some (rv 88), some (iv g), some (iv (ρ.1 (b + 1) g)), some (iv ((bvS ρ b g) a y n)), some (iv a), some (iv y), some (iv (n + 1)), some (iv ((bvS ρ b g) a y n))]) dX11_findBest_162 rfl rfl (by decide) rfl ?_
        refine e_goto (pc' := 83) dX11_findBest_165 (by decide) ?_
        have hFb : FbI σ (upI (upI (upI τ2 101 0 a) 101 1 y) 101 2 n) ρ b g := by
          refine ⟨fr_I (fr_I (fr_I ((hI.1.tr (hE1.mono (by decide))).tr (hE2.mono (by decide))) (by decide)) (by decide)) (by decide), ?_, ?_, ?_, ?_⟩
          · exact (hI.2.1.tr (show KA τ τ1 by have e := (hE1 88 (by decide)).1; unfold KA; rw [e]; exact ⟨rfl, rfl, rfl⟩)).tr hK2
          · exact RtI.fr (σ := τ2) hM2.2.2.2.2.2.2.1 rfl
          · intro j hj
            have e : ((upI (upI (upI τ2 101 0 a) 101 1 y) 101 2 n)).1 89 j = τ2.1 89 j := rfl
            rw [e, (hE2 89 (by decide)).1, hN1]
            exact (if_neg hj).trans (hI.2.2.2.1 j hj)
          · intro i p q
            have e : ((upI (upI (upI τ2 101 0 a) 101 1 y) 101 2 n)).1 102 i = τ2.1 102 i := rfl
            rw [e, (hE2 102 (by decide)).1, (hE1 102 (by decide)).1]
            exact hI.2.2.2.2 i p q
        refine ih (n + 1) _ (upI (upI (upI τ2 101 0 a) 101 1 y) 101 2 n) _ (by omega) (by omega) (by omega) hFb (by omega) ?_
        · rw [fdZ_s _ hn0, ← hbr]
          show _ = updB (brM τ most) _ a y n
          unfold updB
          rw [if_pos (show (brM τ most).1 < bvS ρ b g a y n by show most < _; omega)]
          rfl
  · have htp : (tp2 (ρ.1 b 7) (ρ.1 (b + 1) g) a y) = (ρ.1 (b + 1) g) - a - y := if_neg c2_1
    refine e_iload_n (pc' := 94) dX11_findBest_93 rfl rfl ?_
    refine e_iload (pc' := 96) dX11_findBest_94 rfl rfl ?_
    refine e_isub (pc' := 97) dX11_findBest_96 rfl ?_
    refine e_iload (pc' := 99) dX11_findBest_97 rfl rfl ?_
    refine e_isub (pc' := 100) dX11_findBest_99 rfl ?_
    refine e_goto (pc' := 104) dX11_findBest_100 (by decide) ?_
    refine e_icmpI (pc' := 107) (t := 168) dX11_findBest_104 (by decide) rfl ⟨by omega, by omega⟩ ⟨by omega, by omega⟩ (fun (c4_2 : (((ρ.1 (b + 1) g) - a) - y) < (n : Int)) => ?_) (fun (c4_2 : ¬ ((((ρ.1 (b + 1) g) - a) - y) < (n : Int))) => ?_)
    · exact hK τ most _ _ hI hmr (by rw [show (tp2 (ρ.1 b 7) (ρ.1 (b + 1) g) a y) + 1 = n by omega]; exact hbr)
    · refine e_aload_n (pc' := 108) dX11_findBest_107 rfl rfl ?_
      refine e_iload_n (pc' := 109) dX11_findBest_108 rfl rfl ?_
      refine e_iload (pc' := 111) dX11_findBest_109 rfl rfl ?_
      refine e_iload (pc' := 113) dX11_findBest_111 rfl rfl ?_
      refine e_iload (pc' := 115) dX11_findBest_113 rfl rfl ?_
      refine e_cv4v (pc' := 118) dX11_findBest_115 rfl k_11_220 h_88 rfl (Nat.le_of_ble_eq_true rfl) rfl rfl ⟨rfl, rfl⟩ ⟨Nat.zero_le _, Nat.zero_le _⟩ (s_m_setRow g a y n ⟨hg.1, by omega⟩) ?_
      rintro τ1 ⟨hN1, hE1⟩
      have hrw : rowOK ρ b g a y n := ⟨⟨by omega, by omega, by omega, by omega⟩, (fun q => by omega), (fun q => by omega), (fun q => by omega)⟩
      have hM1 : MdI τ1 (gU ρ b g (0, a, y, n)) b := MdI_row h hg hrw (hN1.trans (rwN_off hI.2.2.2.1)) (by rw [(hE1 100 (by decide)).1]; exact (hI.1 100 (by decide)).1) (hI.2.1.tr (by have e := (hE1 88 (by decide)).1; unfold KA; rw [e]; exact ⟨rfl, rfl, rfl⟩)) (RtI.fr hI.2.2.1 (hE1 96 (by decide)).2)
      have hbe : bfS (gU ρ b g (0, a, y, n)) b g = (bvS ρ b g) a y n := bf_bv ho hX hg hrw
      have hvr := hch.2.1 a y n hrw.1.1 hrw.1.2.1 hrw.1.2.2.1 hrw.1.2.2.2
      refine e_aload_n (pc' := 119) dX11_findBest_118 rfl rfl ?_
      refine e_cv0v (pc' := 122) dX11_findBest_119 rfl k_11_211 h_88 rfl (Nat.le_of_ble_eq_true rfl) rfl rfl ⟨rfl, rfl⟩ ⟨Nat.zero_le _, Nat.zero_le _⟩ (s_m_addUpN hM1) ?_
      rintro τ2 ⟨hL2, hE2, hK2, hM2⟩
      refine e_aload_n (pc' := 123) dX11_findBest_122 rfl rfl ?_
      refine e_iload_n (pc' := 124) dX11_findBest_123 rfl rfl ?_
      refine e_cv1i (pc' := 127) dX11_findBest_124 rfl k_11_214 h_88 rfl (Nat.le_of_ble_eq_true rfl) rfl rfl ⟨rfl, rfl⟩ ⟨Nat.zero_le _, Nat.zero_le _⟩ (s_m_hasN hM2 hL2 g ⟨hg.1, by omega⟩) ?_
      intro r σ' hr; rw [hr.1, hr.2, hbe]; clear hr
      refine e_istore (pc' := 129) (L' := [some (rv 88), some (iv g), some (iv (ρ.1 (b + 1) g)), some (iv most), some (iv a), some (iv y), some (iv n), some (iv ((bvS ρ b g) a y n))]) dX11_findBest_127 rfl (by decide) rfl ?_
      refine e_iload (pc' := 131) dX11_findBest_129 rfl rfl ?_
      refine e_iload_n (pc' := 132) dX11_findBest_131 rfl rfl ?_
      refine e_icmpI (pc' := 135) (t := 162) dX11_findBest_132 (by decide) rfl ⟨by omega, by omega⟩ ⟨by omega, by omega⟩ (fun (c6_3 : (((bvS ρ b g) a y n) : Int) ≤ most) => ?_) (fun (c6_3 : ¬ ((((bvS ρ b g) a y n) : Int) ≤ most)) => ?_)
      · refine e_iinc (pc' := 165) (L' := [some (rv 88), some (iv g), some (iv (ρ.1 (b + 1) g)), some (iv most), some (iv a), some (iv y), some (iv (n + 1)), some (iv ((bvS ρ b g) a y n))]) dX11_findBest_162 rfl rfl (by decide) rfl ?_
        refine e_goto (pc' := 83) dX11_findBest_165 (by decide) ?_
        have hFb : FbI σ τ2 ρ b g := by
          refine ⟨(hI.1.tr (hE1.mono (by decide))).tr (hE2.mono (by decide)), ?_, ?_, ?_, ?_⟩
          · exact (hI.2.1.tr (show KA τ τ1 by have e := (hE1 88 (by decide)).1; unfold KA; rw [e]; exact ⟨rfl, rfl, rfl⟩)).tr hK2
          · exact RtI.fr (σ := τ2) hM2.2.2.2.2.2.2.1 rfl
          · intro j hj
            have e : (τ2).1 89 j = τ2.1 89 j := rfl
            rw [e, (hE2 89 (by decide)).1, hN1]
            exact (if_neg hj).trans (hI.2.2.2.1 j hj)
          · intro i p q
            have e : (τ2).1 102 i = τ2.1 102 i := rfl
            rw [e, (hE2 102 (by decide)).1, (hE1 102 (by decide)).1]
            exact hI.2.2.2.2 i p q
        refine ih (n + 1) _ τ2 _ (by omega) (by omega) (by omega) hFb (by omega) ?_
        · have e101 : τ2.1 101 = τ.1 101 := by rw [(hE2 101 (by decide)).1, (hE1 101 (by decide)).1]
          show (most, τ2.1 101 0, τ2.1 101 1, τ2.1 101 2) = _
          rw [e101, fdZ_s _ hn0, ← hbr]
          show _ = updB (brM τ most) _ a y n
          unfold updB
          rw [if_neg (show ¬ (brM τ most).1 < bvS ρ b g a y n by show ¬ most < _; omega)]
          rfl
      · refine e_iload (pc' := 137) dX11_findBest_135 rfl rfl ?_
        refine e_istore_n (pc' := 138) (L' := [some (rv 88), some (iv g), some (iv (ρ.1 (b + 1) g)), some (iv ((bvS ρ b g) a y n)), some (iv a), some (iv y), some (iv n), some (iv ((bvS ρ b g) a y n))]) dX11_findBest_137 rfl (by decide) rfl ?_
        refine e_aload_n (pc' := 139) dX11_findBest_138 rfl rfl ?_
        refine e_getR (pc' := 142) dX11_findBest_139 rfl f_11_55 h_88 rfl ?_
        refine e_iconst (pc' := 143) dX11_findBest_142 rfl ?_
        refine e_iload (pc' := 145) dX11_findBest_143 rfl rfl ?_
        refine e_iast (pc' := 146) dX11_findBest_145 rfl h_101 (by decide) (by omega) (by omega) ?_
        refine e_aload_n (pc' := 147) dX11_findBest_146 rfl rfl ?_
        refine e_getR (pc' := 150) dX11_findBest_147 rfl f_11_55 h_88 rfl ?_
        refine e_iconst (pc' := 151) dX11_findBest_150 rfl ?_
        refine e_iload (pc' := 153) dX11_findBest_151 rfl rfl ?_
        refine e_iast (pc' := 154) dX11_findBest_153 rfl h_101 (by decide) (by omega) (by omega) ?_
        refine e_aload_n (pc' := 155) dX11_findBest_154 rfl rfl ?_
        refine e_getR (pc' := 158) dX11_findBest_155 rfl f_11_55 h_88 rfl ?_
        refine e_iconst (pc' := 159) dX11_findBest_158 rfl ?_
        refine e_iload (pc' := 161) dX11_findBest_159 rfl rfl ?_
        refine e_iast (pc' := 162) dX11_findBest_161 rfl h_101 (by decide) (by omega) (by omega) ?_
        refine e_iinc (pc' := 165) (L' := [some (rv 88), some (iv g), some (iv (ρ.1 (b + 1) g)), some (iv ((bvS ρ b g) a y n)), some (iv a), some (iv y), some (iv (n + 1)), some (iv ((bvS ρ b g) a y n))]) dX11_findBest_162 rfl rfl (by decide) rfl ?_
        refine e_goto (pc' := 83) dX11_findBest_165 (by decide) ?_
        have hFb : FbI σ (upI (upI (upI τ2 101 0 a) 101 1 y) 101 2 n) ρ b g := by
          refine ⟨fr_I (fr_I (fr_I ((hI.1.tr (hE1.mono (by decide))).tr (hE2.mono (by decide))) (by decide)) (by decide)) (by decide), ?_, ?_, ?_, ?_⟩
          · exact (hI.2.1.tr (show KA τ τ1 by have e := (hE1 88 (by decide)).1; unfold KA; rw [e]; exact ⟨rfl, rfl, rfl⟩)).tr hK2
          · exact RtI.fr (σ := τ2) hM2.2.2.2.2.2.2.1 rfl
          · intro j hj
            have e : ((upI (upI (upI τ2 101 0 a) 101 1 y) 101 2 n)).1 89 j = τ2.1 89 j := rfl
            rw [e, (hE2 89 (by decide)).1, hN1]
            exact (if_neg hj).trans (hI.2.2.2.1 j hj)
          · intro i p q
            have e : ((upI (upI (upI τ2 101 0 a) 101 1 y) 101 2 n)).1 102 i = τ2.1 102 i := rfl
            rw [e, (hE2 102 (by decide)).1, (hE1 102 (by decide)).1]
            exact hI.2.2.2.2 i p q
        refine ih (n + 1) _ (upI (upI (upI τ2 101 0 a) 101 1 y) 101 2 n) _ (by omega) (by omega) (by omega) hFb (by omega) ?_
        · rw [fdZ_s _ hn0, ← hbr]
          show _ = updB (brM τ most) _ a y n
          unfold updB
          rw [if_pos (show (brM τ most).1 < bvS ρ b g a y n by show most < _; omega)]
          rfl

set_option maxHeartbeats 4000000 in
set_option maxRecDepth 100000 in
theorem l_fbB {X : AX} {d : Nat} {σ ρ : SG} {b : Nat} {Q : Option AV → SG → Prop} (h : MdI σ ρ b) (g : Int) (hg : 0 ≤ g ∧ g < ρ.1 b 6) (a : Int) (ha : 0 ≤ a ∧ a ≤ (ρ.1 (b + 1) g) ∧ ((ρ.1 b 7) ≤ 0 → a = 0)) (t : BR) (hK : ∀ (τ : SG) (most : Int) (x5 x6 x7 : Option AV), FbI σ τ ρ b g → (-1 ≤ most ∧ most ≤ 1000000) → brM τ most = fdZ (bsB (bvS ρ b g) (ρ.1 b 7) (ρ.1 (b + 1) g) a) ((tp1 (ρ.1 b 7) (ρ.1 (b + 1) g) a) + 1) t → Ev X 0 0 (d + 7) mX11_findBest 174 [some (rv 88), some (iv g), some (iv (ρ.1 (b + 1) g)), some (iv most), some (iv a), x5, x6, x7] [] τ Q) : ∀ (k : Nat) (y most : Int) (τ : SG) (x6 x7 : Option AV), 0 ≤ y → y ≤ (tp1 (ρ.1 b 7) (ρ.1 (b + 1) g) a) + 1 → (tp1 (ρ.1 b 7) (ρ.1 (b + 1) g) a) + 1 - y < k → FbI σ τ ρ b g → (-1 ≤ most ∧ most ≤ 1000000) → brM τ most = fdZ (bsB (bvS ρ b g) (ρ.1 b 7) (ρ.1 (b + 1) g) a) y t → Ev X 0 0 (d + 7) mX11_findBest 59 [some (rv 88), some (iv g), some (iv (ρ.1 (b + 1) g)), some (iv most), some (iv a), some (iv y), x6, x7] [] τ Q := by
  intro k
  induction k with
  | zero => intros; omega
  | succ k ih =>
  intro y most τ x6 x7 hy0 hy1 hyk hI hmr hbr
  have ho := h.1
  have hX := h.2.1
  have hP := h.2.2.1
  have hG := ho.1
  have hW := ho.2.1
  have hco := ho.2.2.2.2.2.2.2.2.2.2.1 g hg.1 (by omega)
  have hN181 : τ.1 89 181 = (ρ.1 b 7) := (hI.2.2.2.1 181 (by omega)).trans hP.1.2.1
  refine e_iload (pc' := 61) dX11_findBest_59 rfl rfl ?_
  refine e_aload_n (pc' := 62) dX11_findBest_61 rfl rfl ?_
  refine e_cv0i (pc' := 65) dX11_findBest_62 rfl k_11_84 h_88 rfl (Nat.le_of_ble_eq_true rfl) rfl rfl ⟨rfl, rfl⟩ ⟨Nat.zero_le _, Nat.zero_le _⟩ s_m_works ?_
  intro r σ' hr; rw [hr.1, hr.2, hN181]; clear hr
  refine e_iconst (pc' := 66) dX11_findBest_65 rfl ?_
  refine e_icmpI (pc' := 69) (t := 76) dX11_findBest_66 (by decide) rfl ⟨by omega, by omega⟩ ⟨by omega, by omega⟩ (fun (c2_1 : ((ρ.1 b 7) : Int) ≤ 1) => ?_) (fun (c2_1 : ¬ (((ρ.1 b 7) : Int) ≤ 1)) => ?_)
  · have htp : (tp1 (ρ.1 b 7) (ρ.1 (b + 1) g) a) = 0 := if_pos c2_1
    refine e_iconst (pc' := 77) dX11_findBest_76 rfl ?_
    refine e_icmpI (pc' := 80) (t := 174) dX11_findBest_77 (by decide) rfl ⟨by omega, by omega⟩ ⟨by omega, by omega⟩ (fun (c4_2 : 0 < (y : Int)) => ?_) (fun (c4_2 : ¬ (0 < (y : Int))) => ?_)
    · exact hK τ most _ _ _ hI hmr (by rw [show (tp1 (ρ.1 b 7) (ρ.1 (b + 1) g) a) + 1 = y by omega]; exact hbr)
    · refine e_iconst (pc' := 81) dX11_findBest_80 rfl ?_
      refine e_istore (pc' := 83) (L' := [some (rv 88), some (iv g), some (iv (ρ.1 (b + 1) g)), some (iv most), some (iv a), some (iv y), some (iv 0), x7]) dX11_findBest_81 rfl (by decide) rfl ?_
      have h2 : 0 ≤ (tp2 (ρ.1 b 7) (ρ.1 (b + 1) g) a y) + 1 := by unfold tp2; split <;> omega
      refine l_fbC h g hg a ha y ⟨by omega, by omega, (fun q => by omega)⟩ (brM τ most) (fun τ' most' x6' x7' hI' hmr' hbr' => ?_) ((tp2 (ρ.1 b 7) (ρ.1 (b + 1) g) a y) + 2).toNat 0 most τ _ (by omega) (by omega) (by omega) hI hmr rfl
      refine e_iinc (pc' := 171) (L' := [some (rv 88), some (iv g), some (iv (ρ.1 (b + 1) g)), some (iv most'), some (iv a), some (iv (y + 1)), x6', x7']) dX11_findBest_168 rfl rfl (by decide) rfl ?_
      refine e_goto (pc' := 59) dX11_findBest_171 (by decide) ?_
      exact ih (y + 1) most' τ' _ _ (by omega) (by omega) (by omega) hI' hmr' (by rw [fdZ_s _ hy0, ← hbr]; exact hbr')
  · have htp : (tp1 (ρ.1 b 7) (ρ.1 (b + 1) g) a) = (ρ.1 (b + 1) g) - a := if_neg c2_1
    refine e_iload_n (pc' := 70) dX11_findBest_69 rfl rfl ?_
    refine e_iload (pc' := 72) dX11_findBest_70 rfl rfl ?_
    refine e_isub (pc' := 73) dX11_findBest_72 rfl ?_
    refine e_goto (pc' := 77) dX11_findBest_73 (by decide) ?_
    refine e_icmpI (pc' := 80) (t := 174) dX11_findBest_77 (by decide) rfl ⟨by omega, by omega⟩ ⟨by omega, by omega⟩ (fun (c4_2 : ((ρ.1 (b + 1) g) - a) < (y : Int)) => ?_) (fun (c4_2 : ¬ (((ρ.1 (b + 1) g) - a) < (y : Int))) => ?_)
    · exact hK τ most _ _ _ hI hmr (by rw [show (tp1 (ρ.1 b 7) (ρ.1 (b + 1) g) a) + 1 = y by omega]; exact hbr)
    · refine e_iconst (pc' := 81) dX11_findBest_80 rfl ?_
      refine e_istore (pc' := 83) (L' := [some (rv 88), some (iv g), some (iv (ρ.1 (b + 1) g)), some (iv most), some (iv a), some (iv y), some (iv 0), x7]) dX11_findBest_81 rfl (by decide) rfl ?_
      have h2 : 0 ≤ (tp2 (ρ.1 b 7) (ρ.1 (b + 1) g) a y) + 1 := by unfold tp2; split <;> omega
      refine l_fbC h g hg a ha y ⟨by omega, by omega, (fun q => by omega)⟩ (brM τ most) (fun τ' most' x6' x7' hI' hmr' hbr' => ?_) ((tp2 (ρ.1 b 7) (ρ.1 (b + 1) g) a y) + 2).toNat 0 most τ _ (by omega) (by omega) (by omega) hI hmr rfl
      refine e_iinc (pc' := 171) (L' := [some (rv 88), some (iv g), some (iv (ρ.1 (b + 1) g)), some (iv most'), some (iv a), some (iv (y + 1)), x6', x7']) dX11_findBest_168 rfl rfl (by decide) rfl ?_
      refine e_goto (pc' := 59) dX11_findBest_171 (by decide) ?_
      exact ih (y + 1) most' τ' _ _ (by omega) (by omega) (by omega) hI' hmr' (by rw [fdZ_s _ hy0, ← hbr]; exact hbr')

set_option maxHeartbeats 4000000 in
set_option maxRecDepth 100000 in
theorem l_fbA {X : AX} {d : Nat} {σ ρ : SG} {b : Nat} (h : MdI σ ρ b) (g : Int) (hg : 0 ≤ g ∧ g < ρ.1 b 6) (z0 z1 z2 : Int) : ∀ (k : Nat) (a most : Int) (τ : SG) (x5 x6 x7 : Option AV), 0 ≤ a → a ≤ (tp0 (ρ.1 b 7) (ρ.1 (b + 1) g)) + 1 → (tp0 (ρ.1 b 7) (ρ.1 (b + 1) g)) + 1 - a < k → FbI σ τ ρ b g → (-1 ≤ most ∧ most ≤ 1000000) → brM τ most = fdZ (bsA (bvS ρ b g) (ρ.1 b 7) (ρ.1 (b + 1) g)) a (-1, z0, z1, z2) → Ev X 0 0 (d + 7) mX11_findBest 39 [some (rv 88), some (iv g), some (iv (ρ.1 (b + 1) g)), some (iv most), some (iv a), x5, x6, x7] [] τ (QI (fun r σ' => r = (beS ρ b g).1 ∧ (σ'.1 101 0 = (beS ρ b g).2.1 ∧ σ'.1 101 1 = (beS ρ b g).2.2.1 ∧ σ'.1 101 2 = (beS ρ b g).2.2.2) ∧ σ'.1 89 = σ.1 89 ∧ Fr [88, 89, 92, 93, 94, 95, 96, 97, 98, 99, 101, 102] σ σ' ∧ KA σ σ' ∧ MdI σ' ρ b)) := by
  intro k
  induction k with
  | zero => intros; omega
  | succ k ih =>
  intro a most τ x5 x6 x7 ha0 ha1 hak hI hmr hbr
  have ho := h.1
  have hX := h.2.1
  have hP := h.2.2.1
  have hG := ho.1
  have hW := ho.2.1
  have hco := ho.2.2.2.2.2.2.2.2.2.2.1 g hg.1 (by omega)
  have hN181 : τ.1 89 181 = (ρ.1 b 7) := (hI.2.2.2.1 181 (by omega)).trans hP.1.2.1
  have hch := ch_ok ho hX hg
  refine e_iload (pc' := 41) dX11_findBest_39 rfl rfl ?_
  refine e_aload_n (pc' := 42) dX11_findBest_41 rfl rfl ?_
  refine e_cv0i (pc' := 45) dX11_findBest_42 rfl k_11_84 h_88 rfl (Nat.le_of_ble_eq_true rfl) rfl rfl ⟨rfl, rfl⟩ ⟨Nat.zero_le _, Nat.zero_le _⟩ s_m_works ?_
  intro r σ' hr; rw [hr.1, hr.2, hN181]; clear hr
  refine e_ifI (pc' := 48) (t := 52) dX11_findBest_45 (by decide) rfl ⟨by omega, by omega⟩ (fun (c2_1 : ((ρ.1 b 7) : Int) ≤ 0) => ?_) (fun (c2_1 : ¬ (((ρ.1 b 7) : Int) ≤ 0)) => ?_)
  · have htp : (tp0 (ρ.1 b 7) (ρ.1 (b + 1) g)) = 0 := if_pos c2_1
    refine e_iconst (pc' := 53) dX11_findBest_52 rfl ?_
    refine e_icmpI (pc' := 56) (t := 180) dX11_findBest_53 (by decide) rfl ⟨by omega, by omega⟩ ⟨by omega, by omega⟩ (fun (c4_2 : 0 < (a : Int)) => ?_) (fun (c4_2 : ¬ (0 < (a : Int))) => ?_)
    · refine e_aload_n (pc' := 181) dX11_findBest_180 rfl rfl ?_
      refine e_iload_n (pc' := 182) dX11_findBest_181 rfl rfl ?_
      refine e_aload_n (pc' := 183) dX11_findBest_182 rfl rfl ?_
      refine e_getR (pc' := 186) dX11_findBest_183 rfl f_11_58 h_88 rfl ?_
      refine e_iconst (pc' := 187) dX11_findBest_186 rfl ?_
      refine e_iald (pc' := 188) (v := (ρ.1 (b + 5) (g * 3 + 0))) dX11_findBest_187 rfl h_102 (by decide) (by omega) (by omega) (hI.2.2.2.2 0 (by decide) (by decide)) ?_
      refine e_aload_n (pc' := 189) dX11_findBest_188 rfl rfl ?_
      refine e_getR (pc' := 192) dX11_findBest_189 rfl f_11_58 h_88 rfl ?_
      refine e_iconst (pc' := 193) dX11_findBest_192 rfl ?_
      refine e_iald (pc' := 194) (v := (ρ.1 (b + 5) (g * 3 + 1))) dX11_findBest_193 rfl h_102 (by decide) (by omega) (by omega) (hI.2.2.2.2 1 (by decide) (by decide)) ?_
      refine e_aload_n (pc' := 195) dX11_findBest_194 rfl rfl ?_
      refine e_getR (pc' := 198) dX11_findBest_195 rfl f_11_58 h_88 rfl ?_
      refine e_iconst (pc' := 199) dX11_findBest_198 rfl ?_
      refine e_iald (pc' := 200) (v := (ρ.1 (b + 5) (g * 3 + 2))) dX11_findBest_199 rfl h_102 (by decide) (by omega) (by omega) (hI.2.2.2.2 2 (by decide) (by decide)) ?_
      refine e_cv4v (pc' := 203) dX11_findBest_200 rfl k_11_220 h_88 rfl (Nat.le_of_ble_eq_true rfl) rfl rfl ⟨rfl, rfl⟩ ⟨Nat.zero_le _, Nat.zero_le _⟩ (s_m_setRow g (ρ.1 (b + 5) (g * 3 + 0)) (ρ.1 (b + 5) (g * 3 + 1)) (ρ.1 (b + 5) (g * 3 + 2)) ⟨hg.1, by omega⟩) ?_
      rintro τ1 ⟨hN1, hE1⟩
      have hNb : τ1.1 89 = σ.1 89 := hN1.trans (rwN_back hP ⟨hg.1, by omega⟩ hI.2.2.2.1 rfl rfl rfl)
      have hKt : KA σ τ1 := hI.2.1.tr (by have e := (hE1 88 (by decide)).1; unfold KA; rw [e]; exact ⟨rfl, rfl, rfl⟩)
      have hFt : Fr [88, 89, 92, 93, 94, 95, 96, 97, 98, 99, 101, 102] σ τ1 := hI.1.tr (hE1.mono (by decide))
      have hbe : brM τ most = beS ρ b g := by rw [hbr, show a = (tp0 (ρ.1 b 7) (ρ.1 (b + 1) g)) + 1 by omega]; exact bsS_any (hch.2.1 0 0 0 (by decide) (by decide) (by decide) (by omega)).1 (by omega) _ _ _
      have e101 : τ1.1 101 = τ.1 101 := (hE1 101 (by decide)).1
      refine e_iload_n (pc' := 204) dX11_findBest_203 rfl rfl ?_
      exact e_iret dX11_findBest_204 rfl ⟨rfl, Nat.le_refl _⟩ ⟨_, rfl, by rw [← hbe]; rfl, by rw [e101, ← hbe]; exact ⟨rfl, rfl, rfl⟩, hNb, hFt, hKt, h.fr hNb (hFt 100 (by decide)).1 hKt (RtI.fr hI.2.2.1 (hE1 96 (by decide)).2)⟩
    · refine e_iconst (pc' := 57) dX11_findBest_56 rfl ?_
      refine e_istore (pc' := 59) (L' := [some (rv 88), some (iv g), some (iv (ρ.1 (b + 1) g)), some (iv most), some (iv a), some (iv 0), x6, x7]) dX11_findBest_57 rfl (by decide) rfl ?_
      have h1 : 0 ≤ (tp1 (ρ.1 b 7) (ρ.1 (b + 1) g) a) + 1 := by unfold tp1; split <;> omega
      refine l_fbB h g hg a ⟨by omega, by omega, (fun q => by omega)⟩ (brM τ most) (fun τ' most' x5' x6' x7' hI' hmr' hbr' => ?_) ((tp1 (ρ.1 b 7) (ρ.1 (b + 1) g) a) + 2).toNat 0 most τ _ _ (by omega) (by omega) (by omega) hI hmr rfl
      refine e_iinc (pc' := 177) (L' := [some (rv 88), some (iv g), some (iv (ρ.1 (b + 1) g)), some (iv most'), some (iv (a + 1)), x5', x6', x7']) dX11_findBest_174 rfl rfl (by decide) rfl ?_
      refine e_goto (pc' := 39) dX11_findBest_177 (by decide) ?_
      exact ih (a + 1) most' τ' _ _ _ (by omega) (by omega) (by omega) hI' hmr' (by rw [fdZ_s _ ha0, ← hbr]; exact hbr')
  · have htp : (tp0 (ρ.1 b 7) (ρ.1 (b + 1) g)) = (ρ.1 (b + 1) g) := if_neg c2_1
    refine e_iload_n (pc' := 49) dX11_findBest_48 rfl rfl ?_
    refine e_goto (pc' := 53) dX11_findBest_49 (by decide) ?_
    refine e_icmpI (pc' := 56) (t := 180) dX11_findBest_53 (by decide) rfl ⟨by omega, by omega⟩ ⟨by omega, by omega⟩ (fun (c4_2 : (ρ.1 (b + 1) g) < (a : Int)) => ?_) (fun (c4_2 : ¬ ((ρ.1 (b + 1) g) < (a : Int))) => ?_)
    · refine e_aload_n (pc' := 181) dX11_findBest_180 rfl rfl ?_
      refine e_iload_n (pc' := 182) dX11_findBest_181 rfl rfl ?_
      refine e_aload_n (pc' := 183) dX11_findBest_182 rfl rfl ?_
      refine e_getR (pc' := 186) dX11_findBest_183 rfl f_11_58 h_88 rfl ?_
      refine e_iconst (pc' := 187) dX11_findBest_186 rfl ?_
      refine e_iald (pc' := 188) (v := (ρ.1 (b + 5) (g * 3 + 0))) dX11_findBest_187 rfl h_102 (by decide) (by omega) (by omega) (hI.2.2.2.2 0 (by decide) (by decide)) ?_
      refine e_aload_n (pc' := 189) dX11_findBest_188 rfl rfl ?_
      refine e_getR (pc' := 192) dX11_findBest_189 rfl f_11_58 h_88 rfl ?_
      refine e_iconst (pc' := 193) dX11_findBest_192 rfl ?_
      refine e_iald (pc' := 194) (v := (ρ.1 (b + 5) (g * 3 + 1))) dX11_findBest_193 rfl h_102 (by decide) (by omega) (by omega) (hI.2.2.2.2 1 (by decide) (by decide)) ?_
      refine e_aload_n (pc' := 195) dX11_findBest_194 rfl rfl ?_
      refine e_getR (pc' := 198) dX11_findBest_195 rfl f_11_58 h_88 rfl ?_
      refine e_iconst (pc' := 199) dX11_findBest_198 rfl ?_
      refine e_iald (pc' := 200) (v := (ρ.1 (b + 5) (g * 3 + 2))) dX11_findBest_199 rfl h_102 (by decide) (by omega) (by omega) (hI.2.2.2.2 2 (by decide) (by decide)) ?_
      refine e_cv4v (pc' := 203) dX11_findBest_200 rfl k_11_220 h_88 rfl (Nat.le_of_ble_eq_true rfl) rfl rfl ⟨rfl, rfl⟩ ⟨Nat.zero_le _, Nat.zero_le _⟩ (s_m_setRow g (ρ.1 (b + 5) (g * 3 + 0)) (ρ.1 (b + 5) (g * 3 + 1)) (ρ.1 (b + 5) (g * 3 + 2)) ⟨hg.1, by omega⟩) ?_
      rintro τ1 ⟨hN1, hE1⟩
      have hNb : τ1.1 89 = σ.1 89 := hN1.trans (rwN_back hP ⟨hg.1, by omega⟩ hI.2.2.2.1 rfl rfl rfl)
      have hKt : KA σ τ1 := hI.2.1.tr (by have e := (hE1 88 (by decide)).1; unfold KA; rw [e]; exact ⟨rfl, rfl, rfl⟩)
      have hFt : Fr [88, 89, 92, 93, 94, 95, 96, 97, 98, 99, 101, 102] σ τ1 := hI.1.tr (hE1.mono (by decide))
      have hbe : brM τ most = beS ρ b g := by rw [hbr, show a = (tp0 (ρ.1 b 7) (ρ.1 (b + 1) g)) + 1 by omega]; exact bsS_any (hch.2.1 0 0 0 (by decide) (by decide) (by decide) (by omega)).1 (by omega) _ _ _
      have e101 : τ1.1 101 = τ.1 101 := (hE1 101 (by decide)).1
      refine e_iload_n (pc' := 204) dX11_findBest_203 rfl rfl ?_
      exact e_iret dX11_findBest_204 rfl ⟨rfl, Nat.le_refl _⟩ ⟨_, rfl, by rw [← hbe]; rfl, by rw [e101, ← hbe]; exact ⟨rfl, rfl, rfl⟩, hNb, hFt, hKt, h.fr hNb (hFt 100 (by decide)).1 hKt (RtI.fr hI.2.2.1 (hE1 96 (by decide)).2)⟩
    · refine e_iconst (pc' := 57) dX11_findBest_56 rfl ?_
      refine e_istore (pc' := 59) (L' := [some (rv 88), some (iv g), some (iv (ρ.1 (b + 1) g)), some (iv most), some (iv a), some (iv 0), x6, x7]) dX11_findBest_57 rfl (by decide) rfl ?_
      have h1 : 0 ≤ (tp1 (ρ.1 b 7) (ρ.1 (b + 1) g) a) + 1 := by unfold tp1; split <;> omega
      refine l_fbB h g hg a ⟨by omega, by omega, (fun q => by omega)⟩ (brM τ most) (fun τ' most' x5' x6' x7' hI' hmr' hbr' => ?_) ((tp1 (ρ.1 b 7) (ρ.1 (b + 1) g) a) + 2).toNat 0 most τ _ _ (by omega) (by omega) (by omega) hI hmr rfl
      refine e_iinc (pc' := 177) (L' := [some (rv 88), some (iv g), some (iv (ρ.1 (b + 1) g)), some (iv most'), some (iv (a + 1)), x5', x6', x7']) dX11_findBest_174 rfl rfl (by decide) rfl ?_
      refine e_goto (pc' := 39) dX11_findBest_177 (by decide) ?_
      exact ih (a + 1) most' τ' _ _ _ (by omega) (by omega) (by omega) hI' hmr' (by rw [fdZ_s _ ha0, ← hbr]; exact hbr')

set_option maxHeartbeats 4000000 in
set_option maxRecDepth 100000 in
theorem s_m_findBest {X : AX} {d : Nat} {σ ρ : SG} {b : Nat} (h : MdI σ ρ b) (g : Int) (hg : 0 ≤ g ∧ g < ρ.1 b 6) : Ev X 0 0 (d + 7) mX11_findBest 0 [some (rv 88), some (iv g), none, none, none, none, none, none] [] σ (QI (fun r σ' => r = (beS ρ b g).1 ∧ (σ'.1 101 0 = (beS ρ b g).2.1 ∧ σ'.1 101 1 = (beS ρ b g).2.2.1 ∧ σ'.1 101 2 = (beS ρ b g).2.2.2) ∧ σ'.1 89 = σ.1 89 ∧ Fr [88, 89, 92, 93, 94, 95, 96, 97, 98, 99, 101, 102] σ σ' ∧ KA σ σ' ∧ MdI σ' ρ b)) := by
  have ho := h.1
  have hX := h.2.1
  have hP := h.2.2.1
  have hG := ho.1
  have hW := ho.2.1
  have hco := ho.2.2.2.2.2.2.2.2.2.2.1 g hg.1 (by omega)
  have hcn : σ.1 89 (0 + g) = (ρ.1 (b + 1) g) := by rw [show 0 + g = g by omega]; exact hP.2.1 g hg.1 (by omega)
  refine e_iconst (pc' := 1) dX11_findBest_0 rfl ?_
  refine e_istore_n (pc' := 2) (L' := [some (rv 88), some (iv g), some (iv 0), none, none, none, none, none]) dX11_findBest_1 rfl (by decide) rfl ?_
  refine e_iload_n (pc' := 3) dX11_findBest_2 rfl rfl ?_
  refine e_iconst (pc' := 4) dX11_findBest_3 rfl ?_
  refine e_icmpI (pc' := 7) (t := 25) dX11_findBest_4 (by decide) rfl ⟨by omega, by omega⟩ ⟨by omega, by omega⟩ (fun c2_1 => absurd (show 3 ≤ (0 : Int) from c2_1) (by decide)) (fun _ => ?_)
  refine e_aload_n (pc' := 8) dX11_findBest_7 rfl rfl ?_
  refine e_getR (pc' := 11) dX11_findBest_8 rfl f_11_58 h_88 rfl ?_
  refine e_iload_n (pc' := 12) dX11_findBest_11 rfl rfl ?_
  refine e_aload_n (pc' := 13) dX11_findBest_12 rfl rfl ?_
  refine e_iload_n (pc' := 14) dX11_findBest_13 rfl rfl ?_
  refine e_iload_n (pc' := 15) dX11_findBest_14 rfl rfl ?_
  refine e_cv2i (pc' := 18) dX11_findBest_15 rfl k_11_186 h_88 rfl (Nat.le_of_ble_eq_true rfl) rfl rfl ⟨rfl, rfl⟩ ⟨Nat.zero_le _, Nat.zero_le _⟩ (s_m_gift g 0 (by omega) (by omega)) ?_
  intro r σ' hr; rw [hr.1, hr.2, show σ.1 89 (35 + 3 * g + 0) = ρ.1 (b + 5) (g * 3 + 0) from by have q := (h.2.2.1.2.2.2 (g * 3 + 0) (by omega) (by omega)).2.2; rw [show 35 + (g * 3 + 0) = 35 + 3 * g + 0 by omega] at q; exact q]; clear hr
  refine e_iast (pc' := 19) dX11_findBest_18 rfl h_102 (by decide) (by omega) (by omega) ?_
  refine e_iinc (pc' := 22) (L' := [some (rv 88), some (iv g), some (iv 1), none, none, none, none, none]) dX11_findBest_19 rfl rfl (by decide) rfl ?_
  refine e_goto (pc' := 2) dX11_findBest_22 (by decide) ?_
  refine e_iload_n (pc' := 3) dX11_findBest_2 rfl rfl ?_
  refine e_iconst (pc' := 4) dX11_findBest_3 rfl ?_
  refine e_icmpI (pc' := 7) (t := 25) dX11_findBest_4 (by decide) rfl ⟨by omega, by omega⟩ ⟨by omega, by omega⟩ (fun c2_2 => absurd (show 3 ≤ (1 : Int) from c2_2) (by decide)) (fun _ => ?_)
  refine e_aload_n (pc' := 8) dX11_findBest_7 rfl rfl ?_
  refine e_getR (pc' := 11) dX11_findBest_8 rfl f_11_58 h_88 rfl ?_
  refine e_iload_n (pc' := 12) dX11_findBest_11 rfl rfl ?_
  refine e_aload_n (pc' := 13) dX11_findBest_12 rfl rfl ?_
  refine e_iload_n (pc' := 14) dX11_findBest_13 rfl rfl ?_
  refine e_iload_n (pc' := 15) dX11_findBest_14 rfl rfl ?_
  refine e_cv2i (pc' := 18) dX11_findBest_15 rfl k_11_186 h_88 rfl (Nat.le_of_ble_eq_true rfl) rfl rfl ⟨rfl, rfl⟩ ⟨Nat.zero_le _, Nat.zero_le _⟩ (s_m_gift g 1 (by omega) (by omega)) ?_
  intro r σ' hr; rw [hr.1, hr.2, show (upI σ 102 0 (ρ.1 (b + 5) (g * 3 + 0))).1 89 (35 + 3 * g + 1) = ρ.1 (b + 5) (g * 3 + 1) from by have q := (h.2.2.1.2.2.2 (g * 3 + 1) (by omega) (by omega)).2.2; rw [show 35 + (g * 3 + 1) = 35 + 3 * g + 1 by omega] at q; exact q]; clear hr
  refine e_iast (pc' := 19) dX11_findBest_18 rfl h_102 (by decide) (by omega) (by omega) ?_
  refine e_iinc (pc' := 22) (L' := [some (rv 88), some (iv g), some (iv 2), none, none, none, none, none]) dX11_findBest_19 rfl rfl (by decide) rfl ?_
  refine e_goto (pc' := 2) dX11_findBest_22 (by decide) ?_
  refine e_iload_n (pc' := 3) dX11_findBest_2 rfl rfl ?_
  refine e_iconst (pc' := 4) dX11_findBest_3 rfl ?_
  refine e_icmpI (pc' := 7) (t := 25) dX11_findBest_4 (by decide) rfl ⟨by omega, by omega⟩ ⟨by omega, by omega⟩ (fun c2_3 => absurd (show 3 ≤ (2 : Int) from c2_3) (by decide)) (fun _ => ?_)
  refine e_aload_n (pc' := 8) dX11_findBest_7 rfl rfl ?_
  refine e_getR (pc' := 11) dX11_findBest_8 rfl f_11_58 h_88 rfl ?_
  refine e_iload_n (pc' := 12) dX11_findBest_11 rfl rfl ?_
  refine e_aload_n (pc' := 13) dX11_findBest_12 rfl rfl ?_
  refine e_iload_n (pc' := 14) dX11_findBest_13 rfl rfl ?_
  refine e_iload_n (pc' := 15) dX11_findBest_14 rfl rfl ?_
  refine e_cv2i (pc' := 18) dX11_findBest_15 rfl k_11_186 h_88 rfl (Nat.le_of_ble_eq_true rfl) rfl rfl ⟨rfl, rfl⟩ ⟨Nat.zero_le _, Nat.zero_le _⟩ (s_m_gift g 2 (by omega) (by omega)) ?_
  intro r σ' hr; rw [hr.1, hr.2, show (upI (upI σ 102 0 (ρ.1 (b + 5) (g * 3 + 0))) 102 1 (ρ.1 (b + 5) (g * 3 + 1))).1 89 (35 + 3 * g + 2) = ρ.1 (b + 5) (g * 3 + 2) from by have q := (h.2.2.1.2.2.2 (g * 3 + 2) (by omega) (by omega)).2.2; rw [show 35 + (g * 3 + 2) = 35 + 3 * g + 2 by omega] at q; exact q]; clear hr
  refine e_iast (pc' := 19) dX11_findBest_18 rfl h_102 (by decide) (by omega) (by omega) ?_
  refine e_iinc (pc' := 22) (L' := [some (rv 88), some (iv g), some (iv 3), none, none, none, none, none]) dX11_findBest_19 rfl rfl (by decide) rfl ?_
  refine e_goto (pc' := 2) dX11_findBest_22 (by decide) ?_
  refine e_iload_n (pc' := 3) dX11_findBest_2 rfl rfl ?_
  refine e_iconst (pc' := 4) dX11_findBest_3 rfl ?_
  refine e_icmpI (pc' := 7) (t := 25) dX11_findBest_4 (by decide) rfl ⟨by omega, by omega⟩ ⟨by omega, by omega⟩ (fun _ => ?_) (fun c2_4 => absurd (show 3 ≤ (3 : Int) by decide) c2_4)
  refine e_aload_n (pc' := 26) dX11_findBest_25 rfl rfl ?_
  refine e_getR (pc' := 29) dX11_findBest_26 rfl f_11_7 h_88 rfl ?_
  refine e_iconst (pc' := 30) dX11_findBest_29 rfl ?_
  refine e_iload_n (pc' := 31) dX11_findBest_30 rfl rfl ?_
  refine e_iadd (pc' := 32) dX11_findBest_31 rfl ?_
  refine e_iald (pc' := 33) (v := (ρ.1 (b + 1) g)) dX11_findBest_32 rfl h_89 (by decide) (by omega) (by omega) hcn ?_
  refine e_istore_n (pc' := 34) (L' := [some (rv 88), some (iv g), some (iv (ρ.1 (b + 1) g)), none, none, none, none, none]) dX11_findBest_33 rfl (by decide) rfl ?_
  refine e_iconst (pc' := 35) dX11_findBest_34 rfl ?_
  refine e_istore_n (pc' := 36) (L' := [some (rv 88), some (iv g), some (iv (ρ.1 (b + 1) g)), some (iv (-1)), none, none, none, none]) dX11_findBest_35 rfl (by decide) rfl ?_
  refine e_iconst (pc' := 37) dX11_findBest_36 rfl ?_
  refine e_istore (pc' := 39) (L' := [some (rv 88), some (iv g), some (iv (ρ.1 (b + 1) g)), some (iv (-1)), some (iv 0), none, none, none]) dX11_findBest_37 rfl (by decide) rfl ?_
  have h0 : 0 ≤ (tp0 (ρ.1 b 7) (ρ.1 (b + 1) g)) + 1 := by unfold tp0; split <;> omega
  refine l_fbA h g hg (σ.1 101 0) (σ.1 101 1) (σ.1 101 2) ((tp0 (ρ.1 b 7) (ρ.1 (b + 1) g)) + 2).toNat 0 (-1) (upI (upI (upI σ 102 0 (ρ.1 (b + 5) (g * 3 + 0))) 102 1 (ρ.1 (b + 5) (g * 3 + 1))) 102 2 (ρ.1 (b + 5) (g * 3 + 2))) _ _ _ (by omega) (by omega) (by omega) ⟨(by repeat (first | exact Fr.rf | assumption | (refine fr_I ?_ (by decide)) | (refine fr_J ?_ (by decide)) | (refine fr_C ?_ (by decide)))), ⟨rfl, rfl, rfl⟩, RtI.fr (σ := σ) h.2.2.2.2.2.2.1 rfl, (fun j _ => rfl), ?_⟩ (by decide) rfl
  intro i p q
  rcases (show i = 0 ∨ i = 1 ∨ i = 2 by omega) with rfl | rfl | rfl
  · exact rfl
  · exact rfl
  · exact rfl

set_option maxHeartbeats 4000000 in
set_option maxRecDepth 100000 in
theorem s_m_best {X : AX} {d : Nat} {σ ρ : SG} {b : Nat} (h : MdI σ ρ b) (g k : Int) (hg : rg g) (hk : rg k) : Ev X 0 0 (d + 8) mX11_best 0 [some (rv 88), some (iv g), some (iv k), none] [] σ (QI (fun r σ' => r = (if (0 ≤ g ∧ g < (ρ.1 b 6)) ∧ (k = -1 ∨ (0 ≤ k ∧ k < (ρ.1 b 7))) then (if k = -1 then (beS ρ b g).1 else rowW (beS ρ b g).2.1 (beS ρ b g).2.2.1 (beS ρ b g).2.2.2 k) else -10) ∧ σ'.1 89 = σ.1 89 ∧ Fr [88, 89, 92, 93, 94, 95, 96, 97, 98, 99, 101, 102] σ σ' ∧ KA σ σ' ∧ MdI σ' ρ b)) := by
  have ho := h.1
  have hX := h.2.1
  have hP := h.2.2.1
  have hG := ho.1
  have hW := ho.2.1
  obtain ⟨hg1, hg2⟩ := hg
  obtain ⟨hk1, hk2⟩ := hk
  refine e_aload_n (pc' := 1) dX11_best_0 rfl rfl ?_
  refine e_iload_n (pc' := 2) dX11_best_1 rfl rfl ?_
  refine e_cv1i (pc' := 5) dX11_best_2 rfl k_11_91 h_88 rfl (Nat.le_of_ble_eq_true rfl) rfl rfl ⟨rfl, rfl⟩ ⟨Nat.zero_le _, Nat.zero_le _⟩ (s_m_isGiver g ⟨by omega, by omega⟩ (by rw [h.2.2.1.1.1]; exact hG)) ?_
  intro r σ' hr; rw [hr.1, hr.2, h.2.2.1.1.1]; clear hr
  refine e_ifI (pc' := 8) (t := 21) dX11_best_5 (by decide) rfl ⟨by first | omega | (split <;> omega), by first | omega | (split <;> omega)⟩ (fun (c2_1 : ((if 0 ≤ g ∧ g < (ρ.1 b 6) then 1 else 0) : Int) = 0) => ?_) (fun (c2_1 : ¬ (((if 0 ≤ g ∧ g < (ρ.1 b 6) then 1 else 0) : Int) = 0)) => ?_)
  · have c2_1n : ¬ (0 ≤ g ∧ g < (ρ.1 b 6)) := fun hpq_ => absurd (if_pos hpq_ : (if 0 ≤ g ∧ g < (ρ.1 b 6) then (1 : Int) else 0) = 1) (by have := c2_1; omega)
    refine e_bipush (pc' := 23) (z := (-10)) dX11_best_21 rfl (by decide) ?_
    exact e_iret dX11_best_23 rfl ⟨rfl, Nat.le_refl _⟩ ⟨_, rfl, by rw [if_neg (by omega)], rfl, Fr.rf, KA.rf, h⟩
  · have c2_1n : 0 ≤ g ∧ g < (ρ.1 b 6) := Classical.byContradiction (fun hpq_ => absurd (if_neg hpq_ : (if 0 ≤ g ∧ g < (ρ.1 b 6) then (1 : Int) else 0) = 0) (by have := c2_1; omega))
    refine e_iload_n (pc' := 9) dX11_best_8 rfl rfl ?_
    refine e_iconst (pc' := 10) dX11_best_9 rfl ?_
    refine e_icmpI (pc' := 13) (t := 24) dX11_best_10 (by decide) rfl ⟨by first | omega | (split <;> omega), by first | omega | (split <;> omega)⟩ ⟨by omega, by omega⟩ (fun (c4_2 : (k : Int) = (-1)) => ?_) (fun (c4_2 : ¬ ((k : Int) = (-1))) => ?_)
    · refine e_aload_n (pc' := 25) dX11_best_24 rfl rfl ?_
      refine e_iload_n (pc' := 26) dX11_best_25 rfl rfl ?_
      refine e_cv1i (pc' := 29) dX11_best_26 rfl k_11_224 h_88 rfl (Nat.le_of_ble_eq_true rfl) rfl rfl ⟨rfl, rfl⟩ ⟨Nat.zero_le _, Nat.zero_le _⟩ (s_m_findBest h g ⟨by omega, by omega⟩) ?_
      rintro r τ1 ⟨hr, hrow, hN1, hF1, hK1, hM1⟩
      refine e_istore_n (pc' := 30) (L' := [some (rv 88), some (iv g), some (iv k), some (iv r)]) dX11_best_29 rfl (by decide) rfl ?_
      refine e_iload_n (pc' := 31) dX11_best_30 rfl rfl ?_
      refine e_iconst (pc' := 32) dX11_best_31 rfl ?_
      refine e_icmpI (pc' := 35) (t := 39) dX11_best_32 (by decide) rfl ⟨by first | omega | (split <;> omega), by first | omega | (split <;> omega)⟩ ⟨by omega, by omega⟩ (fun (c6_3 : (k : Int) ≠ (-1)) => ?_) (fun (c6_3 : ¬ ((k : Int) ≠ (-1))) => ?_)
      · refine e_aload_n (pc' := 40) dX11_best_39 rfl rfl ?_
        refine e_getR (pc' := 43) dX11_best_40 rfl f_11_55 h_88 rfl ?_
        refine e_iload_n (pc' := 44) dX11_best_43 rfl rfl ?_
        refine e_iald (pc' := 45) (v := (τ1.1 101 k)) dX11_best_44 rfl h_101 (by decide) (by omega) (by omega) rfl ?_
        exact e_iret dX11_best_45 rfl ⟨rfl, Nat.le_refl _⟩ ⟨_, rfl, by rw [if_pos (by omega), if_neg (by omega)]; (rcases (show k = 0 ∨ k = 1 ∨ k = 2 by omega) with q | q | q <;> subst q <;> first | exact hrow.1 | exact hrow.2.1 | exact hrow.2.2), hN1, hF1, hK1, hM1⟩
      · refine e_iload_n (pc' := 36) dX11_best_35 rfl rfl ?_
        refine e_goto (pc' := 45) dX11_best_36 (by decide) ?_
        exact e_iret dX11_best_45 rfl ⟨rfl, Nat.le_refl _⟩ ⟨_, rfl, by rw [if_pos (by omega), if_pos (by omega)]; exact hr, hN1, hF1, hK1, hM1⟩
    · refine e_aload_n (pc' := 14) dX11_best_13 rfl rfl ?_
      refine e_iload_n (pc' := 15) dX11_best_14 rfl rfl ?_
      refine e_cv1i (pc' := 18) dX11_best_15 rfl k_11_95 h_88 rfl (Nat.le_of_ble_eq_true rfl) rfl rfl ⟨rfl, rfl⟩ ⟨Nat.zero_le _, Nat.zero_le _⟩ (s_m_isWork k ⟨by omega, by omega⟩ (by rw [h.2.2.1.1.2.1]; exact hW)) ?_
      intro r σ' hr; rw [hr.1, hr.2, h.2.2.1.1.2.1]; clear hr
      refine e_ifI (pc' := 21) (t := 24) dX11_best_18 (by decide) rfl ⟨by first | omega | (split <;> omega), by first | omega | (split <;> omega)⟩ (fun (c6_3 : ((if 0 ≤ k ∧ k < (ρ.1 b 7) then 1 else 0) : Int) ≠ 0) => ?_) (fun (c6_3 : ¬ (((if 0 ≤ k ∧ k < (ρ.1 b 7) then 1 else 0) : Int) ≠ 0)) => ?_)
      · have c6_3n : 0 ≤ k ∧ k < (ρ.1 b 7) := Classical.byContradiction (fun hpq_ => absurd (if_neg hpq_ : (if 0 ≤ k ∧ k < (ρ.1 b 7) then (1 : Int) else 0) = 0) (by have := c6_3; omega))
        refine e_aload_n (pc' := 25) dX11_best_24 rfl rfl ?_
        refine e_iload_n (pc' := 26) dX11_best_25 rfl rfl ?_
        refine e_cv1i (pc' := 29) dX11_best_26 rfl k_11_224 h_88 rfl (Nat.le_of_ble_eq_true rfl) rfl rfl ⟨rfl, rfl⟩ ⟨Nat.zero_le _, Nat.zero_le _⟩ (s_m_findBest h g ⟨by omega, by omega⟩) ?_
        rintro r τ1 ⟨hr, hrow, hN1, hF1, hK1, hM1⟩
        refine e_istore_n (pc' := 30) (L' := [some (rv 88), some (iv g), some (iv k), some (iv r)]) dX11_best_29 rfl (by decide) rfl ?_
        refine e_iload_n (pc' := 31) dX11_best_30 rfl rfl ?_
        refine e_iconst (pc' := 32) dX11_best_31 rfl ?_
        refine e_icmpI (pc' := 35) (t := 39) dX11_best_32 (by decide) rfl ⟨by first | omega | (split <;> omega), by first | omega | (split <;> omega)⟩ ⟨by omega, by omega⟩ (fun (c8_4 : (k : Int) ≠ (-1)) => ?_) (fun (c8_4 : ¬ ((k : Int) ≠ (-1))) => ?_)
        · refine e_aload_n (pc' := 40) dX11_best_39 rfl rfl ?_
          refine e_getR (pc' := 43) dX11_best_40 rfl f_11_55 h_88 rfl ?_
          refine e_iload_n (pc' := 44) dX11_best_43 rfl rfl ?_
          refine e_iald (pc' := 45) (v := (τ1.1 101 k)) dX11_best_44 rfl h_101 (by decide) (by omega) (by omega) rfl ?_
          exact e_iret dX11_best_45 rfl ⟨rfl, Nat.le_refl _⟩ ⟨_, rfl, by rw [if_pos (by omega), if_neg (by omega)]; (rcases (show k = 0 ∨ k = 1 ∨ k = 2 by omega) with q | q | q <;> subst q <;> first | exact hrow.1 | exact hrow.2.1 | exact hrow.2.2), hN1, hF1, hK1, hM1⟩
        · refine e_iload_n (pc' := 36) dX11_best_35 rfl rfl ?_
          refine e_goto (pc' := 45) dX11_best_36 (by decide) ?_
          exact e_iret dX11_best_45 rfl ⟨rfl, Nat.le_refl _⟩ ⟨_, rfl, by rw [if_pos (by omega), if_pos (by omega)]; exact hr, hN1, hF1, hK1, hM1⟩
      · have c6_3n : ¬ (0 ≤ k ∧ k < (ρ.1 b 7)) := fun hpq_ => absurd (if_pos hpq_ : (if 0 ≤ k ∧ k < (ρ.1 b 7) then (1 : Int) else 0) = 1) (by have := c6_3; omega)
        refine e_bipush (pc' := 23) (z := (-10)) dX11_best_21 rfl (by decide) ?_
        exact e_iret dX11_best_23 rfl ⟨rfl, Nat.le_refl _⟩ ⟨_, rfl, by rw [if_neg (by omega)], rfl, Fr.rf, KA.rf, h⟩

set_option maxHeartbeats 4000000 in
set_option maxRecDepth 100000 in
theorem l_m_rest {X : AX} {d : Nat} {σ ρ : SG} {b : Nat} (h : MdI σ ρ b) (k : Int) (hk : 0 ≤ k ∧ k ≤ 1) : ∀ (n : Nat) (i : Int) (τ : SG) (x3 : Option AV), 0 ≤ i → i + n = (ρ.1 b 6) → rsS (fun g => (beS ρ b g).1 - bfS ρ b g) k (ρ.1 b 6).toNat 0 = rsS (fun g => (beS ρ b g).1 - bfS ρ b g) k n i → τ.1 89 = σ.1 89 → Fr [88, 89, 92, 93, 94, 95, 96, 97, 98, 99, 101, 102] σ τ → KA σ τ → MdI τ ρ b → Ev X 0 0 (d + 8) mX11_rest 15 [some (rv 88), some (iv k), some (iv i), x3] [] τ (QI (fun r σ' => r = rsS (fun g => (beS ρ b g).1 - bfS ρ b g) k (ρ.1 b 6).toNat 0 ∧ σ'.1 89 = σ.1 89 ∧ Fr [88, 89, 92, 93, 94, 95, 96, 97, 98, 99, 101, 102] σ σ' ∧ KA σ σ' ∧ MdI σ' ρ b)) := by
  intro n
  induction n using Nat.strongRecOn with
  | ind n ih =>
  intro i τ x3 hi hn hrs hN hF hK hM
  have ho := h.1
  have hX := h.2.1
  have hP := h.2.2.1
  have hG := ho.1
  have hW := ho.2.1
  refine e_iload_n (pc' := 16) dX11_rest_15 rfl rfl ?_
  refine e_aload_n (pc' := 17) dX11_rest_16 rfl rfl ?_
  refine e_cv0i (pc' := 20) dX11_rest_17 rfl k_11_76 h_88 rfl (Nat.le_of_ble_eq_true rfl) rfl rfl ⟨rfl, rfl⟩ ⟨Nat.zero_le _, Nat.zero_le _⟩ s_m_givers ?_
  intro r σ' hr; rw [hr.1, hr.2, hM.2.2.1.1.1]; clear hr
  refine e_icmpI (pc' := 23) (t := 61) dX11_rest_20 (by decide) rfl ⟨by omega, by omega⟩ ⟨by omega, by omega⟩ (fun (c2_1 : (ρ.1 b 6) ≤ (i : Int)) => ?_) (fun (c2_1 : ¬ ((ρ.1 b 6) ≤ (i : Int))) => ?_)
  · refine e_iconst (pc' := 62) dX11_rest_61 rfl ?_
    exact e_iret dX11_rest_62 rfl ⟨rfl, Nat.le_refl _⟩ ⟨_, rfl, by rw [hrs, show n = 0 by omega]; rfl, hN, hF, hK, hM⟩
  · refine e_aload_n (pc' := 24) dX11_rest_23 rfl rfl ?_
    refine e_iload_n (pc' := 25) dX11_rest_24 rfl rfl ?_
    refine e_cv1i (pc' := 28) dX11_rest_25 rfl k_11_224 h_88 rfl (Nat.le_of_ble_eq_true rfl) rfl rfl ⟨rfl, rfl⟩ ⟨Nat.zero_le _, Nat.zero_le _⟩ (s_m_findBest hM i ⟨by omega, by omega⟩) ?_
    rintro r τ1 ⟨hr, hrow, hN1, hF1, hK1, hM1⟩
    have hber := (be_ok ho hX (g := i) ⟨by omega, by omega⟩).1
    have hbfr := (ch_ok ho hX (g := i) ⟨by omega, by omega⟩).2.2
    rw [← hr] at hber
    refine e_istore_n (pc' := 29) (L' := [some (rv 88), some (iv k), some (iv i), some (iv r)]) dX11_rest_28 rfl (by decide) rfl ?_
    refine e_aload_n (pc' := 30) dX11_rest_29 rfl rfl ?_
    refine e_cv0v (pc' := 33) dX11_rest_30 rfl k_11_211 h_88 rfl (Nat.le_of_ble_eq_true rfl) rfl rfl ⟨rfl, rfl⟩ ⟨Nat.zero_le _, Nat.zero_le _⟩ (s_m_addUpN hM1) ?_
    rintro τ2 ⟨hL2, hE2, hK2, hM2⟩
    have hN2 : τ2.1 89 = σ.1 89 := ((hE2 89 (by decide)).1.trans hN1).trans hN
    have hF2 : Fr [88, 89, 92, 93, 94, 95, 96, 97, 98, 99, 101, 102] σ τ2 := (hF.tr hF1).tr (hE2.mono (by decide))
    have hKK2 : KA σ τ2 := (hK.tr hK1).tr hK2
    refine e_iload_n (pc' := 34) dX11_rest_33 rfl rfl ?_
    refine e_aload_n (pc' := 35) dX11_rest_34 rfl rfl ?_
    refine e_iload_n (pc' := 36) dX11_rest_35 rfl rfl ?_
    refine e_cv1i (pc' := 39) dX11_rest_36 rfl k_11_214 h_88 rfl (Nat.le_of_ble_eq_true rfl) rfl rfl ⟨rfl, rfl⟩ ⟨Nat.zero_le _, Nat.zero_le _⟩ (s_m_hasN hM2 hL2 i ⟨by omega, by omega⟩) ?_
    intro z σ' hz; rw [hz.1, hz.2]; clear hz
    refine e_isub (pc' := 40) dX11_rest_39 rfl ?_
    refine e_istore_n (pc' := 41) (L' := [some (rv 88), some (iv k), some (iv i), some (iv (r - (bfS ρ b i)))]) dX11_rest_40 rfl (by decide) rfl ?_
    refine e_iload_n (pc' := 42) dX11_rest_41 rfl rfl ?_
    refine e_ifI (pc' := 45) (t := 55) dX11_rest_42 (by decide) rfl ⟨by omega, by omega⟩ (fun (c4_2 : ((r - (bfS ρ b i)) : Int) ≤ 0) => ?_) (fun (c4_2 : ¬ (((r - (bfS ρ b i)) : Int) ≤ 0)) => ?_)
    · refine e_iinc (pc' := 58) (L' := [some (rv 88), some (iv k), some (iv (i + 1)), some (iv (r - (bfS ρ b i)))]) dX11_rest_55 rfl rfl (by decide) rfl ?_
      refine e_goto (pc' := 15) dX11_rest_58 (by decide) ?_
      obtain ⟨n', rfl⟩ : ∃ n', n = n' + 1 := ⟨n - 1, by omega⟩
      refine ih n' (by omega) (i + 1) τ2 _ (by omega) (by omega) (hrs.trans ?_) hN2 hF2 hKK2 hM2
      show (if 0 < (fun g => (beS ρ b g).1 - bfS ρ b g) i then (if k = 0 then i else (fun g => (beS ρ b g).1 - bfS ρ b g) i) else rsS (fun g => (beS ρ b g).1 - bfS ρ b g) k n' (i + 1)) = _
      rw [if_neg (by dsimp only; omega)]
    · refine e_iload_n (pc' := 46) dX11_rest_45 rfl rfl ?_
      refine e_ifI (pc' := 49) (t := 53) dX11_rest_46 (by decide) rfl ⟨by omega, by omega⟩ (fun (c6_3 : (k : Int) ≠ 0) => ?_) (fun (c6_3 : ¬ ((k : Int) ≠ 0)) => ?_)
      · refine e_iload_n (pc' := 54) dX11_rest_53 rfl rfl ?_
        exact e_iret dX11_rest_54 rfl ⟨rfl, Nat.le_refl _⟩ ⟨_, rfl, by rw [hrs]; obtain ⟨n', rfl⟩ : ∃ n', n = n' + 1 := ⟨n - 1, by omega⟩; show _ = (if 0 < (fun g => (beS ρ b g).1 - bfS ρ b g) i then (if k = 0 then i else (fun g => (beS ρ b g).1 - bfS ρ b g) i) else _); rw [if_pos (by dsimp only; omega)]; first | (rw [if_pos (by omega)]; done) | (rw [if_neg (by omega)]; dsimp only; omega), hN2, hF2, hKK2, hM2⟩
      · refine e_iload_n (pc' := 50) dX11_rest_49 rfl rfl ?_
        refine e_goto (pc' := 54) dX11_rest_50 (by decide) ?_
        exact e_iret dX11_rest_54 rfl ⟨rfl, Nat.le_refl _⟩ ⟨_, rfl, by rw [hrs]; obtain ⟨n', rfl⟩ : ∃ n', n = n' + 1 := ⟨n - 1, by omega⟩; show _ = (if 0 < (fun g => (beS ρ b g).1 - bfS ρ b g) i then (if k = 0 then i else (fun g => (beS ρ b g).1 - bfS ρ b g) i) else _); rw [if_pos (by dsimp only; omega)]; first | (rw [if_pos (by omega)]; done) | (rw [if_neg (by omega)]; dsimp only; omega), hN2, hF2, hKK2, hM2⟩

set_option maxHeartbeats 4000000 in
set_option maxRecDepth 100000 in
theorem s_m_rest {X : AX} {d : Nat} {σ ρ : SG} {b : Nat} (h : MdI σ ρ b) (k : Int) (hk : rg k) : Ev X 0 0 (d + 8) mX11_rest 0 [some (rv 88), some (iv k), none, none] [] σ (QI (fun r σ' => r = (if 0 ≤ k ∧ k ≤ 1 then rsS (fun g => (beS ρ b g).1 - bfS ρ b g) k (ρ.1 b 6).toNat 0 else -10) ∧ σ'.1 89 = σ.1 89 ∧ Fr [88, 89, 92, 93, 94, 95, 96, 97, 98, 99, 101, 102] σ σ' ∧ KA σ σ' ∧ MdI σ' ρ b)) := by
  have ho := h.1
  have hX := h.2.1
  have hP := h.2.2.1
  have hG := ho.1
  have hW := ho.2.1
  obtain ⟨hk1, hk2⟩ := hk
  refine e_iload_n (pc' := 1) dX11_rest_0 rfl rfl ?_
  refine e_i2l (pc' := 2) dX11_rest_1 rfl ⟨by first | omega | (split <;> omega), by first | omega | (split <;> omega)⟩ ?_
  refine e_lconst (pc' := 3) (z := 0) dX11_rest_2 rfl rfl ?_
  refine e_lconst (pc' := 4) (z := 1) dX11_rest_3 rfl rfl ?_
  refine e_cs3i (pc' := 7) dX11_rest_4 rfl pn_11_80 k_11_80 (Nat.le_of_ble_eq_true rfl) rfl rfl ⟨rfl, rfl⟩ ⟨Nat.zero_le _, Nat.zero_le _⟩ (s_m_in k 0 1 (i64_to ⟨by omega, by omega⟩) (by decide) (by decide)) ?_
  intro r σ' hr; rw [hr.1, hr.2]; clear hr
  refine e_ifI (pc' := 10) (t := 13) dX11_rest_7 (by decide) rfl ⟨by first | omega | (split <;> omega), by first | omega | (split <;> omega)⟩ (fun (c2_1 : ((if 0 ≤ k ∧ k ≤ 1 then 1 else 0) : Int) ≠ 0) => ?_) (fun (c2_1 : ¬ (((if 0 ≤ k ∧ k ≤ 1 then 1 else 0) : Int) ≠ 0)) => ?_)
  · have c2_1n : 0 ≤ k ∧ k ≤ 1 := Classical.byContradiction (fun hpq_ => absurd (if_neg hpq_ : (if 0 ≤ k ∧ k ≤ 1 then (1 : Int) else 0) = 0) (by have := c2_1; omega))
    refine e_iconst (pc' := 14) dX11_rest_13 rfl ?_
    refine e_istore_n (pc' := 15) (L' := [some (rv 88), some (iv k), some (iv 0), none]) dX11_rest_14 rfl (by decide) rfl ?_
    rw [if_pos (by omega)]
    exact l_m_rest h k (by omega) (ρ.1 b 6).toNat 0 σ _ (by omega) (by omega) rfl rfl Fr.rf KA.rf h
  · have c2_1n : ¬ (0 ≤ k ∧ k ≤ 1) := fun hpq_ => absurd (if_pos hpq_ : (if 0 ≤ k ∧ k ≤ 1 then (1 : Int) else 0) = 1) (by have := c2_1; omega)
    refine e_bipush (pc' := 12) (z := (-10)) dX11_rest_10 rfl (by decide) ?_
    exact e_iret dX11_rest_12 rfl ⟨rfl, Nat.le_refl _⟩ ⟨_, rfl, by rw [if_neg (by omega)], rfl, Fr.rf, KA.rf, h⟩
