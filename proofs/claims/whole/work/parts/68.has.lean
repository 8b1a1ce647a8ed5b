/-! what a work is worth, coin by coin; what one has -/
def wsM (f s : Int) : Nat → Int
  | 0 => 0
  | n + 1 => wsM f s n + (if f - s * n ≤ 0 then 0 else f - s * n)
def clQ (f s c : Int) : Int := c * f - s * (c * (c - 1) / 2)
theorem tri {c : Int} : (c + 1) * (c + 1 - 1) / 2 = c * (c - 1) / 2 + c := by
  have e : (c + 1) * (c + 1 - 1) = c * (c - 1) + c * 2 := by
    rw [show c + 1 - 1 = c by omega, Int.add_mul, Int.one_mul, Int.mul_sub, Int.mul_one]
    omega
  rw [e, Int.add_mul_ediv_right _ _ (by decide)]
theorem clQ_s (f s c : Int) : clQ f s (c + 1) = clQ f s c + (f - s * c) := by
  unfold clQ
  rw [tri, Int.add_mul, Int.one_mul, Int.mul_add]
  omega
theorem ws_cl {f s : Int} (hf : 0 ≤ f) (hs : 0 ≤ s) : ∀ n : Nat, wsM f s n = clQ f s (if 0 < s then min (n : Int) ((f + s - 1) / s) else n)
  | 0 => by
    show (0 : Int) = _
    by_cases h : 0 < s
    · rw [if_pos h, show min ((0 : Nat) : Int) ((f + s - 1) / s) = 0 by have := Int.ediv_nonneg (a := f + s - 1) (b := s) (by omega) (by omega); omega]
      unfold clQ
      simp
    · rw [if_neg h]
      unfold clQ
      simp
  | n + 1 => by
    have ih := ws_cl hf hs n
    show wsM f s n + (if f - s * n ≤ 0 then 0 else f - s * n) = _
    by_cases h : 0 < s
    · rw [if_pos h] at ih ⊢
      have d1 := Int.mul_ediv_self_le (x := f + s - 1) (k := s) (by omega)
      have d2 := Int.lt_mul_ediv_self_add (x := f + s - 1) (k := s) h
      have d0 := Int.ediv_nonneg (a := f + s - 1) (b := s) (by omega) (by omega)
      obtain ⟨D, hD⟩ : ∃ D, D = (f + s - 1) / s := ⟨_, rfl⟩
      rw [← hD] at ih d1 d2 d0 ⊢
      by_cases hn : (n : Int) < D
      · have h1 := Int.mul_le_mul_of_nonneg_left (show (n : Int) ≤ D - 1 by omega) hs
        rw [Int.mul_sub, Int.mul_one] at h1
        rw [if_neg (by omega), show min ((n + 1 : Nat) : Int) D = (n : Int) + 1 by omega, clQ_s, ih, show min (n : Int) D = (n : Int) by omega]
      · have h1 := Int.mul_le_mul_of_nonneg_left (show D ≤ (n : Int) by omega) hs
        rw [if_pos (by omega), show min ((n + 1 : Nat) : Int) D = D by omega, ih, show min (n : Int) D = D by omega]
        omega
    · rw [if_neg h] at ih ⊢
      have hs0 : s = 0 := by omega
      subst hs0
      rw [Int.zero_mul, show ((n + 1 : Nat) : Int) = (n : Int) + 1 from rfl, clQ_s, ih, Int.zero_mul]
      split <;> omega
theorem wcS_ws {bar f s a : Int} (hf : 0 ≤ f) (hs : 0 ≤ s) (ha : 0 ≤ a) : wcS bar f s a = if a < bar then 0 else wsM f s (min a 60).toNat := by
  unfold wcS
  by_cases h : a < bar
  · rw [if_pos h, if_pos h]
  · rw [if_neg h, if_neg h, ws_cl hf hs]
    rw [show (((min a 60).toNat : Nat) : Int) = min a 60 by omega]
    rfl
/-- gifts and worths only where there are givers and works; no more than the coin -/
def ScX (ρ : SG) (b : Nat) : Prop := (∀ g w, 0 ≤ g → g < 5 → 0 ≤ w → w < 3 → (ρ.1 b 7 ≤ w ∨ ρ.1 b 6 ≤ g) → ρ.1 (b + 5) (g * 3 + w) = 0) ∧ (∀ g w, 0 ≤ g → g < 5 → 0 ≤ w → w < 3 → ρ.1 b 7 ≤ w → ρ.1 (b + 3) (g * 3 + w) = 0 ∧ ρ.1 (b + 4) (g * 3 + w) = 0) ∧ ∀ g, 0 ≤ g → g < 5 → gv (ρ.1 (b + 5)) g ≤ ρ.1 (b + 1) g
def MdI (σ ρ : SG) (b : Nat) : Prop := ScOK ρ b ∧ ScX ρ b ∧ MrP (σ.1 89) ρ b ∧ ((σ.1 88 18 = 1 ∧ ∀ t, tlR ρ b t = 0) ∨ (σ.1 88 18 = 0 ∧ MrR (σ.1 89) ρ b)) ∧ (σ.1 88 19 = -1 ∧ σ.1 88 20 = -1) ∧ (0 ≤ σ.1 89 55 ∧ σ.1 89 55 ≤ 200) ∧ RtI σ ∧ ∀ i, 0 ≤ i → i < 4 → 0 ≤ σ.1 100 i ∧ σ.1 100 i ≤ 12
theorem MdI.fr {σ σ' ρ : SG} {b : Nat} (h : MdI σ ρ b) (h89 : σ'.1 89 = σ.1 89) (h100 : σ'.1 100 = σ.1 100) (hK : KA σ σ') (hR : RtI σ') : MdI σ' ρ b := by
  unfold MdI
  rw [h89, h100, hK.1, hK.2.1, hK.2.2]
  exact ⟨h.1, h.2.1, h.2.2.1, h.2.2.2.1, h.2.2.2.2.1, h.2.2.2.2.2.1, hR, h.2.2.2.2.2.2.2⟩
def LgM (τ ρ : SG) (b : Nat) (U : Int → Int) : Prop := ∀ w, 0 ≤ w → w < ρ.1 b 7 → τ.1 99 w = gfS ρ b w ∧ τ.1 97 w = U w ∧ τ.1 98 w = adS (ρ.1 b 11) (ρ.1 b 10) U w
theorem hnT_sa (f : Int → Int) (pt : Int → Int) (w : Int) : ∀ n : Nat, hnT f (-1) (-1) pt w n = saS f w (-1) n
  | 0 => rfl
  | n + 1 => by
    show (if (n : Int) = -1 ∧ w = -1 then _ else seeS (hnT f (-1) (-1) pt w n) (f ((n : Int) * 3 + w))) = (if (n : Int) = -1 then _ else seeS (saS f w (-1) n) (f ((n : Int) * 3 + w)))
    rw [if_neg (by omega), if_neg (by omega), hnT_sa f pt w n]
theorem ua_wd (ρ : SG) (b : Nat) (pt : Int → Int) : uaS ρ b (-1) (-1) pt = wdS ρ b := by
  funext w
  unfold uaS wdS
  split
  · rw [hnT_sa]; rfl
  · rfl
theorem s_m_addUpN {X : AX} {d : Nat} {σ ρ : SG} {b : Nat} (h : MdI σ ρ b) : Ev X 0 0 (d + 6) mX11_addUp 0 [some (rv 88), none, none, none, none] [] σ (QV (fun σ' => LgM σ' ρ b (wdS ρ b) ∧ Fr [88, 92, 93, 94, 95, 96, 97, 98, 99] σ σ' ∧ KA σ σ' ∧ MdI σ' ρ b)) := by
  obtain ⟨h1, h2, h3, h4, h5, h6, h7, h8⟩ := id h
  refine (s_m_addUp ρ b h1 h3 (σ.1 88 18) (-1) (-1) h4 rfl h5.1 h5.2 ⟨by decide, by decide⟩ ⟨by decide, by decide⟩ h8 h6 h7).imp ?_
  rintro v σ' ⟨hv, hA, hR, hF, hK⟩
  rw [ua_wd] at hA
  exact ⟨hv, hA, hF, hK, h.fr (hF 89 (by decide)).1 (hF 100 (by decide)).1 hK hR⟩

set_option maxHeartbeats 4000000 in
set_option maxRecDepth 100000 in
theorem l_m_worthOf {X : AX} {d : Nat} {σ : SG} (ρ : SG) (b : Nat) (ho : ScOK ρ b) (hP : MrP (σ.1 89) ρ b) (g w a : Int) (hg : 0 ≤ g ∧ g < 5) (hw : 0 ≤ w ∧ w < 3) (ha : 0 ≤ a ∧ a ≤ 2000) (hba : ¬ a < (ρ.1 (b + 2) w)) : ∀ (k n : Nat) (u cs : Int) (x6 : Option AV), u = (n : Int) → u ≤ min a 60 → min a 60 - u < k → cs = wsM (ρ.1 (b + 3) (g * 3 + w)) (ρ.1 (b + 4) (g * 3 + w)) n → Ev X 0 0 d mX11_worthOf 21 [some (rv 88), some (iv g), some (iv w), some (iv a), some (iv cs), some (iv u), x6] [] σ (QI (fun r σ' => σ' = σ ∧ r = wcS (ρ.1 (b + 2) w) (ρ.1 (b + 3) (g * 3 + w)) (ρ.1 (b + 4) (g * 3 + w)) a)) := by
  intro k
  induction k with
  | zero => intros; omega
  | succ k ih =>
  intro n u cs x6 hun hu1 huk hc
  have hB : σ.1 89 (50 + w) = (ρ.1 (b + 2) w) := hP.2.2.1 w hw.1 hw.2
  have hF1 : σ.1 89 ((5 + (6 * g)) + (2 * w)) = (ρ.1 (b + 3) (g * 3 + w)) := by rw [show (5 + (6 * g)) + (2 * w) = 5 + 2 * (g * 3 + w) by omega]; exact (hP.2.2.2 (g * 3 + w) (by omega) (by omega)).1
  have hS1 : σ.1 89 (((5 + (6 * g)) + (2 * w)) + 1) = (ρ.1 (b + 4) (g * 3 + w)) := by rw [show (5 + (6 * g)) + (2 * w) + 1 = 6 + 2 * (g * 3 + w) by omega]; exact (hP.2.2.2 (g * 3 + w) (by omega) (by omega)).2.1
  have hBr := ho.2.2.2.2.2.2.2.1 w hw.1 hw.2
  have hFr := ho.2.2.2.2.2.2.2.2.1 (g * 3 + w) (by omega) (by omega)
  have hSr := ho.2.2.2.2.2.2.2.2.2.1 (g * 3 + w) (by omega) (by omega)
  refine e_iload (pc' := 23) dX11_worthOf_21 rfl rfl ?_
  refine e_iload_n (pc' := 24) dX11_worthOf_23 rfl rfl ?_
  refine e_icmpI (pc' := 27) (t := 94) dX11_worthOf_24 (by decide) rfl (by first | exact ⟨by omega, by omega⟩ | exact hmr) (by first | exact ⟨by omega, by omega⟩ | exact hmr) (fun (c2_1 : a ≤ (u : Int)) => ?_) (fun (c2_1 : ¬ (a ≤ (u : Int))) => ?_)
  · refine e_iload (pc' := 96) dX11_worthOf_94 rfl rfl ?_
    exact e_iret dX11_worthOf_96 rfl ⟨rfl, Nat.le_refl _⟩ ⟨_, rfl, rfl, by rw [wcS_ws hFr.1 hSr.1 ha.1, if_neg hba, hc, show (min a 60).toNat = n by omega]⟩
  · refine e_iload (pc' := 29) dX11_worthOf_27 rfl rfl ?_
    refine e_bipush (pc' := 31) (z := 60) dX11_worthOf_29 rfl (by decide) ?_
    refine e_icmpI (pc' := 34) (t := 94) dX11_worthOf_31 (by decide) rfl (by first | exact ⟨by omega, by omega⟩ | exact hmr) ⟨by omega, by omega⟩ (fun (c4_2 : 60 ≤ (u : Int)) => ?_) (fun (c4_2 : ¬ (60 ≤ (u : Int))) => ?_)
    · refine e_iload (pc' := 96) dX11_worthOf_94 rfl rfl ?_
      exact e_iret dX11_worthOf_96 rfl ⟨rfl, Nat.le_refl _⟩ ⟨_, rfl, rfl, by rw [wcS_ws hFr.1 hSr.1 ha.1, if_neg hba, hc, show (min a 60).toNat = n by omega]⟩
    · have hmr : rg ((ρ.1 (b + 3) (g * 3 + w)) - (ρ.1 (b + 4) (g * 3 + w)) * u) := by
        have q := Int.mul_le_mul hSr.2 (show u ≤ 60 by omega) (by omega) (by decide : (0 : Int) ≤ 50)
        have q2 := Int.mul_nonneg hSr.1 (show 0 ≤ u by omega)
        exact ⟨by omega, by omega⟩
      refine e_aload_n (pc' := 35) dX11_worthOf_34 rfl rfl ?_
      refine e_getR (pc' := 38) dX11_worthOf_35 rfl f_11_7 h_88 rfl ?_
      refine e_iconst (pc' := 39) dX11_worthOf_38 rfl ?_
      refine e_bipush (pc' := 41) (z := 6) dX11_worthOf_39 rfl (by decide) ?_
      refine e_iload_n (pc' := 42) dX11_worthOf_41 rfl rfl ?_
      refine e_imul (pc' := 43) dX11_worthOf_42 rfl ?_
      refine e_iadd (pc' := 44) dX11_worthOf_43 rfl ?_
      refine e_iconst (pc' := 45) dX11_worthOf_44 rfl ?_
      refine e_iload_n (pc' := 46) dX11_worthOf_45 rfl rfl ?_
      refine e_imul (pc' := 47) dX11_worthOf_46 rfl ?_
      refine e_iadd (pc' := 48) dX11_worthOf_47 rfl ?_
      refine e_iald (pc' := 49) (v := (ρ.1 (b + 3) (g * 3 + w))) dX11_worthOf_48 rfl h_89 (by decide) (by omega) (by omega) hF1 ?_
      refine e_aload_n (pc' := 50) dX11_worthOf_49 rfl rfl ?_
      refine e_getR (pc' := 53) dX11_worthOf_50 rfl f_11_7 h_88 rfl ?_
      refine e_iconst (pc' := 54) dX11_worthOf_53 rfl ?_
      refine e_bipush (pc' := 56) (z := 6) dX11_worthOf_54 rfl (by decide) ?_
      refine e_iload_n (pc' := 57) dX11_worthOf_56 rfl rfl ?_
      refine e_imul (pc' := 58) dX11_worthOf_57 rfl ?_
      refine e_iadd (pc' := 59) dX11_worthOf_58 rfl ?_
      refine e_iconst (pc' := 60) dX11_worthOf_59 rfl ?_
      refine e_iload_n (pc' := 61) dX11_worthOf_60 rfl rfl ?_
      refine e_imul (pc' := 62) dX11_worthOf_61 rfl ?_
      refine e_iadd (pc' := 63) dX11_worthOf_62 rfl ?_
      refine e_iconst (pc' := 64) dX11_worthOf_63 rfl ?_
      refine e_iadd (pc' := 65) dX11_worthOf_64 rfl ?_
      refine e_iald (pc' := 66) (v := (ρ.1 (b + 4) (g * 3 + w))) dX11_worthOf_65 rfl h_89 (by decide) (by omega) (by omega) hS1 ?_
      refine e_iload (pc' := 68) dX11_worthOf_66 rfl rfl ?_
      refine e_imul (pc' := 69) dX11_worthOf_68 rfl ?_
      refine e_isub (pc' := 70) dX11_worthOf_69 rfl ?_
      refine e_istore (pc' := 72) (L' := [some (rv 88), some (iv g), some (iv w), some (iv a), some (iv cs), some (iv u), some (iv ((ρ.1 (b + 3) (g * 3 + w)) - ((ρ.1 (b + 4) (g * 3 + w)) * u)))]) dX11_worthOf_70 rfl (by decide) rfl ?_
      refine e_iload (pc' := 74) dX11_worthOf_72 rfl rfl ?_
      refine e_iload (pc' := 76) dX11_worthOf_74 rfl rfl ?_
      refine e_ifI (pc' := 79) (t := 84) dX11_worthOf_76 (by decide) rfl (by first | exact ⟨by omega, by omega⟩ | exact hmr) (fun (c6_3 : (((ρ.1 (b + 3) (g * 3 + w)) - ((ρ.1 (b + 4) (g * 3 + w)) * u)) : Int) ≤ 0) => ?_) (fun (c6_3 : ¬ ((((ρ.1 (b + 3) (g * 3 + w)) - ((ρ.1 (b + 4) (g * 3 + w)) * u)) : Int) ≤ 0)) => ?_)
      · refine e_iconst (pc' := 85) dX11_worthOf_84 rfl ?_
        refine e_iadd (pc' := 86) dX11_worthOf_85 rfl ?_
        refine e_istore (pc' := 88) (L' := [some (rv 88), some (iv g), some (iv w), some (iv a), some (iv (cs + 0)), some (iv u), some (iv ((ρ.1 (b + 3) (g * 3 + w)) - ((ρ.1 (b + 4) (g * 3 + w)) * u)))]) dX11_worthOf_86 rfl (by decide) rfl ?_
        refine e_iinc (pc' := 91) (L' := [some (rv 88), some (iv g), some (iv w), some (iv a), some (iv (cs + 0)), some (iv (u + 1)), some (iv ((ρ.1 (b + 3) (g * 3 + w)) - ((ρ.1 (b + 4) (g * 3 + w)) * u)))]) dX11_worthOf_88 rfl rfl (by decide) rfl ?_
        refine e_goto (pc' := 21) dX11_worthOf_91 (by decide) ?_
        refine ih (n + 1) (u + 1) _ _ (by omega) (by omega) (by omega) ?_
        show _ = wsM (ρ.1 (b + 3) (g * 3 + w)) (ρ.1 (b + 4) (g * 3 + w)) n + (if (ρ.1 (b + 3) (g * 3 + w)) - (ρ.1 (b + 4) (g * 3 + w)) * (n : Int) ≤ 0 then 0 else (ρ.1 (b + 3) (g * 3 + w)) - (ρ.1 (b + 4) (g * 3 + w)) * (n : Int))
        rw [← hun, ← hc]
        first | rw [if_pos (by assumption)] | rw [if_neg (by assumption)]
      · refine e_iload (pc' := 81) dX11_worthOf_79 rfl rfl ?_
        refine e_goto (pc' := 85) dX11_worthOf_81 (by decide) ?_
        refine e_iadd (pc' := 86) dX11_worthOf_85 rfl ?_
        refine e_istore (pc' := 88) (L' := [some (rv 88), some (iv g), some (iv w), some (iv a), some (iv (cs + ((ρ.1 (b + 3) (g * 3 + w)) - ((ρ.1 (b + 4) (g * 3 + w)) * u)))), some (iv u), some (iv ((ρ.1 (b + 3) (g * 3 + w)) - ((ρ.1 (b + 4) (g * 3 + w)) * u)))]) dX11_worthOf_86 rfl (by decide) rfl ?_
        refine e_iinc (pc' := 91) (L' := [some (rv 88), some (iv g), some (iv w), some (iv a), some (iv (cs + ((ρ.1 (b + 3) (g * 3 + w)) - ((ρ.1 (b + 4) (g * 3 + w)) * u)))), some (iv (u + 1)), some (iv ((ρ.1 (b + 3) (g * 3 + w)) - ((ρ.1 (b + 4) (g * 3 + w)) * u)))]) dX11_worthOf_88 rfl rfl (by decide) rfl ?_
        refine e_goto (pc' := 21) dX11_worthOf_91 (by decide) ?_
        refine ih (n + 1) (u + 1) _ _ (by omega) (by omega) (by omega) ?_
        show _ = wsM (ρ.1 (b + 3) (g * 3 + w)) (ρ.1 (b + 4) (g * 3 + w)) n + (if (ρ.1 (b + 3) (g * 3 + w)) - (ρ.1 (b + 4) (g * 3 + w)) * (n : Int) ≤ 0 then 0 else (ρ.1 (b + 3) (g * 3 + w)) - (ρ.1 (b + 4) (g * 3 + w)) * (n : Int))
        rw [← hun, ← hc]
        first | rw [if_pos (by assumption)] | rw [if_neg (by assumption)]

set_option maxHeartbeats 4000000 in
set_option maxRecDepth 100000 in
theorem s_m_worthOf {X : AX} {d : Nat} {σ : SG} (ρ : SG) (b : Nat) (ho : ScOK ρ b) (hP : MrP (σ.1 89) ρ b) (g w a : Int) (hg : 0 ≤ g ∧ g < 5) (hw : 0 ≤ w ∧ w < 3) (ha : 0 ≤ a ∧ a ≤ 2000) : Ev X 0 0 d mX11_worthOf 0 [some (rv 88), some (iv g), some (iv w), some (iv a), none, none, none] [] σ (QI (fun r σ' => σ' = σ ∧ r = wcS (ρ.1 (b + 2) w) (ρ.1 (b + 3) (g * 3 + w)) (ρ.1 (b + 4) (g * 3 + w)) a)) := by
  have hB : σ.1 89 (50 + w) = (ρ.1 (b + 2) w) := hP.2.2.1 w hw.1 hw.2
  have hF1 : σ.1 89 ((5 + (6 * g)) + (2 * w)) = (ρ.1 (b + 3) (g * 3 + w)) := by rw [show (5 + (6 * g)) + (2 * w) = 5 + 2 * (g * 3 + w) by omega]; exact (hP.2.2.2 (g * 3 + w) (by omega) (by omega)).1
  have hS1 : σ.1 89 (((5 + (6 * g)) + (2 * w)) + 1) = (ρ.1 (b + 4) (g * 3 + w)) := by rw [show (5 + (6 * g)) + (2 * w) + 1 = 6 + 2 * (g * 3 + w) by omega]; exact (hP.2.2.2 (g * 3 + w) (by omega) (by omega)).2.1
  have hBr := ho.2.2.2.2.2.2.2.1 w hw.1 hw.2
  have hFr := ho.2.2.2.2.2.2.2.2.1 (g * 3 + w) (by omega) (by omega)
  have hSr := ho.2.2.2.2.2.2.2.2.2.1 (g * 3 + w) (by omega) (by omega)
  refine e_iload_n (pc' := 1) dX11_worthOf_0 rfl rfl ?_
  refine e_aload_n (pc' := 2) dX11_worthOf_1 rfl rfl ?_
  refine e_getR (pc' := 5) dX11_worthOf_2 rfl f_11_7 h_88 rfl ?_
  refine e_bipush (pc' := 7) (z := 50) dX11_worthOf_5 rfl (by decide) ?_
  refine e_iload_n (pc' := 8) dX11_worthOf_7 rfl rfl ?_
  refine e_iadd (pc' := 9) dX11_worthOf_8 rfl ?_
  refine e_iald (pc' := 10) (v := (ρ.1 (b + 2) w)) dX11_worthOf_9 rfl h_89 (by decide) (by omega) (by omega) hB ?_
  refine e_icmpI (pc' := 13) (t := 15) dX11_worthOf_10 (by decide) rfl ⟨by omega, by omega⟩ ⟨by omega, by omega⟩ (fun (c2_1 : (ρ.1 (b + 2) w) ≤ (a : Int)) => ?_) (fun (c2_1 : ¬ ((ρ.1 (b + 2) w) ≤ (a : Int))) => ?_)
  · refine e_iconst (pc' := 16) dX11_worthOf_15 rfl ?_
    refine e_istore (pc' := 18) (L' := [some (rv 88), some (iv g), some (iv w), some (iv a), some (iv 0), none, none]) dX11_worthOf_16 rfl (by decide) rfl ?_
    refine e_iconst (pc' := 19) dX11_worthOf_18 rfl ?_
    refine e_istore (pc' := 21) (L' := [some (rv 88), some (iv g), some (iv w), some (iv a), some (iv 0), some (iv 0), none]) dX11_worthOf_19 rfl (by decide) rfl ?_
    exact l_m_worthOf ρ b ho hP g w a hg hw ha (by omega) 61 0 0 0 _ rfl (by omega) (by omega) rfl
  · refine e_iconst (pc' := 14) dX11_worthOf_13 rfl ?_
    exact e_iret dX11_worthOf_14 rfl ⟨rfl, Nat.le_refl _⟩ ⟨_, rfl, rfl, by unfold wcS; rw [if_pos (by omega)]⟩

set_option maxHeartbeats 4000000 in
set_option maxRecDepth 100000 in
theorem l_m_hasNow {X : AX} {d : Nat} {σ : SG} (ρ : SG) (b : Nat) (h : MdI σ ρ b) (U : Int → Int) (hU : ∀ w, 0 ≤ w → w < 3 → 0 ≤ U w ∧ U w ≤ 99) (hL : LgM σ ρ b U) (g : Int) (hg : 0 ≤ g ∧ g < 5) : ∀ (k : Nat) (w cs lf : Int), 0 ≤ w → w ≤ ρ.1 b 7 → ρ.1 b 7 - w < k → cs = smI (fun w => wcS (ρ.1 (b + 2) w) (ρ.1 (b + 3) (g * 3 + w)) (ρ.1 (b + 4) (g * 3 + w)) ((fun w => gfS ρ b w + adS (ρ.1 b 11) (ρ.1 b 10) U w) w)) w → lf = ρ.1 (b + 1) g - smI (fun w => ρ.1 (b + 5) (g * 3 + w)) w → Ev X 0 0 (d + 1) mX11_hasNow 14 [some (rv 88), some (iv g), some (iv cs), some (iv lf), some (iv w)] [] σ (QI (fun r σ' => σ' = σ ∧ r = hvO ρ b (fun w => gfS ρ b w + adS (ρ.1 b 11) (ρ.1 b 10) U w) (ktO ρ b g) g)) := by
  intro k
  induction k with
  | zero => intros; omega
  | succ k ih =>
  intro w cs lf hw0 hw1 hwk hcs hlf
  have ho := h.1
  have hX := h.2.1
  have hP := h.2.2.1
  have hW := ho.2.1
  refine e_iload (pc' := 16) dX11_hasNow_14 rfl rfl ?_
  refine e_aload_n (pc' := 17) dX11_hasNow_16 rfl rfl ?_
  refine e_cv0i (pc' := 20) dX11_hasNow_17 rfl k_11_84 h_88 rfl (Nat.le_of_ble_eq_true rfl) rfl rfl ⟨rfl, rfl⟩ ⟨Nat.zero_le _, Nat.zero_le _⟩ s_m_works ?_
  intro r σ' hr; rw [hr.1, hr.2, hP.1.2.1]; clear hr
  refine e_icmpI (pc' := 23) (t := 64) dX11_hasNow_20 (by decide) rfl ⟨by omega, by omega⟩ ⟨by omega, by omega⟩ (fun (c2_1 : (ρ.1 b 7) ≤ (w : Int)) => ?_) (fun (c2_1 : ¬ ((ρ.1 b 7) ≤ (w : Int))) => ?_)
  · refine e_iload_n (pc' := 65) dX11_hasNow_64 rfl rfl ?_
    refine e_aload_n (pc' := 66) dX11_hasNow_65 rfl rfl ?_
    refine e_getR (pc' := 69) dX11_hasNow_66 rfl f_11_7 h_88 rfl ?_
    refine e_bipush (pc' := 71) (z := 53) dX11_hasNow_69 rfl (by decide) ?_
    refine e_iald (pc' := 72) (v := (ρ.1 b 8)) dX11_hasNow_71 rfl h_89 (by decide) (by omega) (by omega) hP.1.2.2 ?_
    refine e_iload_n (pc' := 73) dX11_hasNow_72 rfl rfl ?_
    refine e_imul (pc' := 74) dX11_hasNow_73 rfl ?_
    refine e_iadd (pc' := 75) dX11_hasNow_74 rfl ?_
    exact e_iret dX11_hasNow_75 rfl ⟨rfl, Nat.le_refl _⟩ (by
    have hwe : w = ρ.1 b 7 := by omega
    have e1 := sm_3 (f := (fun w => wcS (ρ.1 (b + 2) w) (ρ.1 (b + 3) (g * 3 + w)) (ρ.1 (b + 4) (g * 3 + w)) ((fun w => gfS ρ b w + adS (ρ.1 b 11) (ρ.1 b 10) U w) w))) (u := (fun w => wcS (ρ.1 (b + 2) w) (ρ.1 (b + 3) (g * 3 + w)) (ρ.1 (b + 4) (g * 3 + w)) ((fun w => gfS ρ b w + adS (ρ.1 b 11) (ρ.1 b 10) U w) w))) hW (fun _ _ _ => rfl) (fun v a c => by have q := hX.2.1 g v hg.1 hg.2 (by omega) c a; dsimp only; rw [q.1, q.2]; unfold wcS; split <;> simp)
    have e2 := sm_3 (f := (fun w => ρ.1 (b + 5) (g * 3 + w))) (u := (fun w => ρ.1 (b + 5) (g * 3 + w))) hW (fun _ _ _ => rfl) (fun v a c => hX.1 g v hg.1 hg.2 (by omega) c (Or.inl a))
    rw [hwe, e1] at hcs
    rw [hwe, e2] at hlf
    refine ⟨_, rfl, rfl, ?_⟩
    rw [hcs, hlf]
    unfold hvO hvS ktO gv
    rw [show ρ.1 (b + 1) g - (ρ.1 (b + 5) (g * 3 + 0) + ρ.1 (b + 5) (g * 3 + 1) + ρ.1 (b + 5) (g * 3 + 2)) = ρ.1 (b + 1) g - (ρ.1 (b + 5) (g * 3 + 0) + ρ.1 (b + 5) (g * 3 + 1) + ρ.1 (b + 5) (g * 3 + 2)) from rfl]
    omega)
  · have hq := hL w (by omega) (by omega)
    have hgf := gfS_rg ho w (by omega) (by omega)
    have had := adS_rg (md := ρ.1 b 11) ho.2.2.2.2.1 hU w (by omega) (by omega)
    have hgft : σ.1 89 (35 + 3 * g + w) = ρ.1 (b + 5) (g * 3 + w) := by
      rw [show 35 + 3 * g + w = 35 + (g * 3 + w) by omega]
      exact (hP.2.2.2 (g * 3 + w) (by omega) (by omega)).2.2
    refine e_iload_n (pc' := 24) dX11_hasNow_23 rfl rfl ?_
    refine e_aload_n (pc' := 25) dX11_hasNow_24 rfl rfl ?_
    refine e_iload_n (pc' := 26) dX11_hasNow_25 rfl rfl ?_
    refine e_iload (pc' := 28) dX11_hasNow_26 rfl rfl ?_
    refine e_aload_n (pc' := 29) dX11_hasNow_28 rfl rfl ?_
    refine e_getR (pc' := 32) dX11_hasNow_29 rfl f_11_42 h_88 rfl ?_
    refine e_iload (pc' := 34) dX11_hasNow_32 rfl rfl ?_
    refine e_iald (pc' := 35) (v := (gfS ρ b w)) dX11_hasNow_34 rfl h_99 (by decide) (by omega) (by omega) hq.1 ?_
    refine e_aload_n (pc' := 36) dX11_hasNow_35 rfl rfl ?_
    refine e_getR (pc' := 39) dX11_hasNow_36 rfl f_11_39 h_88 rfl ?_
    refine e_iload (pc' := 41) dX11_hasNow_39 rfl rfl ?_
    refine e_iald (pc' := 42) (v := (adS (ρ.1 b 11) (ρ.1 b 10) U w)) dX11_hasNow_41 rfl h_98 (by decide) (by omega) (by omega) hq.2.2 ?_
    refine e_iadd (pc' := 43) dX11_hasNow_42 rfl ?_
    refine e_cv3i (pc' := 46) dX11_hasNow_43 rfl k_11_207 h_88 rfl (Nat.le_of_ble_eq_true rfl) rfl rfl ⟨rfl, rfl⟩ ⟨Nat.zero_le _, Nat.zero_le _⟩ (s_m_worthOf ρ b ho hP g w ((gfS ρ b w) + (adS (ρ.1 b 11) (ρ.1 b 10) U w)) hg ⟨by omega, by omega⟩ ⟨by omega, by omega⟩) ?_
    intro r σ' hr; rw [hr.1, hr.2]; clear hr
    refine e_iadd (pc' := 47) dX11_hasNow_46 rfl ?_
    refine e_istore_n (pc' := 48) (L' := [some (rv 88), some (iv g), some (iv (cs + (wcS (ρ.1 (b + 2) w) (ρ.1 (b + 3) (g * 3 + w)) (ρ.1 (b + 4) (g * 3 + w)) ((gfS ρ b w) + (adS (ρ.1 b 11) (ρ.1 b 10) U w))))), some (iv lf), some (iv w)]) dX11_hasNow_47 rfl (by decide) rfl ?_
    refine e_iload_n (pc' := 49) dX11_hasNow_48 rfl rfl ?_
    refine e_aload_n (pc' := 50) dX11_hasNow_49 rfl rfl ?_
    refine e_iload_n (pc' := 51) dX11_hasNow_50 rfl rfl ?_
    refine e_iload (pc' := 53) dX11_hasNow_51 rfl rfl ?_
    refine e_cv2i (pc' := 56) dX11_hasNow_53 rfl k_11_186 h_88 rfl (Nat.le_of_ble_eq_true rfl) rfl rfl ⟨rfl, rfl⟩ ⟨Nat.zero_le _, Nat.zero_le _⟩ (s_m_gift g w (by omega) (by omega)) ?_
    intro r σ' hr; rw [hr.1, hr.2, show σ.1 89 (35 + 3 * g + w) = ρ.1 (b + 5) (g * 3 + w) from hgft]; clear hr
    refine e_isub (pc' := 57) dX11_hasNow_56 rfl ?_
    refine e_istore_n (pc' := 58) (L' := [some (rv 88), some (iv g), some (iv (cs + (wcS (ρ.1 (b + 2) w) (ρ.1 (b + 3) (g * 3 + w)) (ρ.1 (b + 4) (g * 3 + w)) ((gfS ρ b w) + (adS (ρ.1 b 11) (ρ.1 b 10) U w))))), some (iv (lf - (ρ.1 (b + 5) (g * 3 + w)))), some (iv w)]) dX11_hasNow_57 rfl (by decide) rfl ?_
    refine e_iinc (pc' := 61) (L' := [some (rv 88), some (iv g), some (iv (cs + (wcS (ρ.1 (b + 2) w) (ρ.1 (b + 3) (g * 3 + w)) (ρ.1 (b + 4) (g * 3 + w)) ((gfS ρ b w) + (adS (ρ.1 b 11) (ρ.1 b 10) U w))))), some (iv (lf - (ρ.1 (b + 5) (g * 3 + w)))), some (iv (w + 1))]) dX11_hasNow_58 rfl rfl (by decide) rfl ?_
    refine e_goto (pc' := 14) dX11_hasNow_61 (by decide) ?_
    exact ih _ _ _ (by omega) (by omega) (by omega) (by rw [smI_s _ hw0, hcs]) (by rw [smI_s _ hw0, hlf]; omega)

set_option maxHeartbeats 4000000 in
set_option maxRecDepth 100000 in
theorem s_m_hasNow {X : AX} {d : Nat} {σ : SG} (ρ : SG) (b : Nat) (h : MdI σ ρ b) (U : Int → Int) (hU : ∀ w, 0 ≤ w → w < 3 → 0 ≤ U w ∧ U w ≤ 99) (hL : LgM σ ρ b U) (g : Int) (hg : 0 ≤ g ∧ g < 5) : Ev X 0 0 (d + 1) mX11_hasNow 0 [some (rv 88), some (iv g), none, none, none] [] σ (QI (fun r σ' => σ' = σ ∧ r = hvO ρ b (fun w => gfS ρ b w + adS (ρ.1 b 11) (ρ.1 b 10) U w) (ktO ρ b g) g)) := by
  have ho := h.1
  have hX := h.2.1
  have hP := h.2.2.1
  have hW := ho.2.1
  have hcn : σ.1 89 (0 + g) = ρ.1 (b + 1) g := by rw [show 0 + g = g by omega]; exact hP.2.1 g hg.1 hg.2
  refine e_iconst (pc' := 1) dX11_hasNow_0 rfl ?_
  refine e_istore_n (pc' := 2) (L' := [some (rv 88), some (iv g), some (iv 0), none, none]) dX11_hasNow_1 rfl (by decide) rfl ?_
  refine e_aload_n (pc' := 3) dX11_hasNow_2 rfl rfl ?_
  refine e_getR (pc' := 6) dX11_hasNow_3 rfl f_11_7 h_88 rfl ?_
  refine e_iconst (pc' := 7) dX11_hasNow_6 rfl ?_
  refine e_iload_n (pc' := 8) dX11_hasNow_7 rfl rfl ?_
  refine e_iadd (pc' := 9) dX11_hasNow_8 rfl ?_
  refine e_iald (pc' := 10) (v := (ρ.1 (b + 1) g)) dX11_hasNow_9 rfl h_89 (by decide) (by omega) (by omega) hcn ?_
  refine e_istore_n (pc' := 11) (L' := [some (rv 88), some (iv g), some (iv 0), some (iv (ρ.1 (b + 1) g)), none]) dX11_hasNow_10 rfl (by decide) rfl ?_
  refine e_iconst (pc' := 12) dX11_hasNow_11 rfl ?_
  refine e_istore (pc' := 14) (L' := [some (rv 88), some (iv g), some (iv 0), some (iv (ρ.1 (b + 1) g)), some (iv 0)]) dX11_hasNow_12 rfl (by decide) rfl ?_
  exact l_m_hasNow ρ b h U hU hL g hg (ρ.1 b 7 + 1).toNat 0 0 _ (by omega) (by omega) (by omega) rfl (by show _ = ρ.1 (b + 1) g - 0; omega)

theorem s_m_hasN {X : AX} {d : Nat} {σ ρ : SG} {b : Nat} (h : MdI σ ρ b) (hL : LgM σ ρ b (wdS ρ b)) (g : Int) (hg : 0 ≤ g ∧ g < 5) : Ev X 0 0 (d + 1) mX11_hasNow 0 [some (rv 88), some (iv g), none, none, none] [] σ (QI (fun r σ' => σ' = σ ∧ r = bfS ρ b g)) := s_m_hasNow ρ b h (wdS ρ b) (fun w _ _ => wdS_rg ρ b w) hL g hg
