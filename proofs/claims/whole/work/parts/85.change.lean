/-! calls that change the scene, at both sides -/
theorem upI_ne {σ : SG} {q k : Nat} {i v : Int} (h : ¬ k = q) : (upI σ q i v).1 k = σ.1 k := by
  funext j
  show (if k = q ∧ j = i then v else σ.1 k j) = _
  rw [if_neg (fun z => h z.1)]
theorem updA_at {f : Int → Int} {i v : Int} : updA f i v i = v := if_pos rfl
theorem updA_ne {f : Int → Int} {i v j : Int} (h : ¬ j = i) : updA f i v j = f j := if_neg h
theorem mrr_of {σ τ : SG} (hR : MrR (σ.1 89) σ 1) (h54 : τ.1 89 54 = τ.1 1 9) (h55 : τ.1 89 55 = τ.1 1 10) (h56 : τ.1 89 56 = τ.1 1 11) (hN : ∀ j, 57 ≤ j → j < 180 → τ.1 89 j = σ.1 89 j) (hr : ∀ k, 8 ≤ k → k < 17 → τ.1 k = σ.1 k) : MrR (τ.1 89) τ 1 := by
  refine ⟨⟨h54, h55, h56⟩, fun u a c => ?_⟩
  have q : rcN 1 u = 1 + 7 + 3 * u.toNat := rfl
  obtain ⟨h1, h2, h3⟩ := hR.2 u a c
  have e0 := hr (rcN 1 u) (by omega) (by omega)
  have e1 := hr (rcN 1 u + 1) (by omega) (by omega)
  have e2 := hr (rcN 1 u + 2) (by omega) (by omega)
  have hl := (ru_n h1).1
  rw [e0, e1]
  refine ⟨RuI_cg h1 e0 e1 e2, by rw [hN (57 + 41 * u) (by omega) (by omega)]; exact h2, fun k p r => ?_⟩
  rw [hN (57 + 41 * u + 1 + k) (by omega) (by omega)]
  exact h3 k p r
theorem ru_same {σ τ : SG} (h : INV σ) (hr : ∀ k, 8 ≤ k → k < 17 → τ.1 k = σ.1 k) : RlOK τ 8 ∧ RlOK τ 11 ∧ RlOK τ 14 := by
  have u := inv_ru h
  exact ⟨RlOK_cg (Ru_Rl u.1) (hr 8 (by decide) (by decide)) (hr 10 (by decide) (by decide)), RlOK_cg (Ru_Rl u.2.1) (hr 11 (by decide) (by decide)) (hr 13 (by decide) (by decide)), RlOK_cg (Ru_Rl u.2.2) (hr 14 (by decide) (by decide)) (hr 16 (by decide) (by decide))⟩
theorem p_giver {X : AX} {σ : SG} (h : INV σ) (c : Int) (hc : rg c) : Ev X 0 0 9 mX10_giver 0 [some (rv 0), some (iv c)] [] σ (QI (fun r σ1 => Ev X 0 0 9 mX11_giver 0 [some (rv 88), some (iv c)] [] σ1 (QI (fun r' σ2 => r' = r ∧ INV σ2)))) := by
  obtain ⟨ho, hX, hP, _⟩ := h.1
  have hR := h.R
  have hG := ho.1
  have hW := ho.2.1
  have p180 : σ.1 89 180 = σ.1 1 6 := hP.1.1
  have p181 : σ.1 89 181 = σ.1 1 7 := hP.1.2.1
  refine Ev.imp (s_giver ho c hc) ?_
  rintro v σ1 ⟨r, rfl, hr⟩
  by_cases h1 : 0 ≤ c ∧ c ≤ 12
  · rw [if_pos h1] at hr
    by_cases h2 : 5 ≤ σ.1 1 6
    · rw [if_pos h2] at hr
      obtain ⟨hr, hs⟩ := hr
      subst hs
      refine ⟨r, rfl, Ev.imp (s_m_giver_ (by rw [p180]; exact hG) (by rw [p181]; exact hW) c hc) ?_⟩
      rintro v2 σ2 ⟨r', rfl, hr'⟩
      rw [if_pos h1, if_pos (by omega)] at hr'
      exact ⟨r', rfl, by omega, by rw [hr'.2]; exact h⟩
    · rw [if_neg h2] at hr
      obtain ⟨hr, hs⟩ := hr
      have n89 : σ1.1 89 = σ.1 89 := by rw [hs, upI_ne (by decide), upI_ne (by decide)]
      refine ⟨r, rfl, Ev.imp (s_m_giver_ (by rw [n89, p180]; exact hG) (by rw [n89, p181]; exact hW) c hc) ?_⟩
      rintro v2 σ2 ⟨r', rfl, hr'⟩
      rw [if_pos h1, if_neg (by rw [n89]; omega)] at hr'
      obtain ⟨hr', hN, hF⟩ := hr'
      rw [n89, p180] at hr' hN
      have e1 : σ2.1 1 = updA (σ.1 1) 6 (σ.1 1 6 + 1) := by rw [(hF 1 (by decide)).1, hs, upI_fn, upI_ne (by decide)]
      have e2 : σ2.1 2 = updA (σ.1 2) (σ.1 1 6) c := by rw [(hF 2 (by decide)).1, hs, upI_ne (by decide), upI_fn]
      have eo : ∀ k, ¬ k = 1 → ¬ k = 2 → ¬ k = 89 → σ2.1 k = σ.1 k := fun k a b d => by rw [(hF k (by simp; exact d)).1, hs, upI_ne a, upI_ne b]
      have f6 : σ2.1 1 6 = σ.1 1 6 + 1 := by rw [e1]; exact updA_at
      have fo : ∀ j, ¬ j = 6 → σ2.1 1 j = σ.1 1 j := fun j q => by rw [e1]; exact updA_ne q
      have hr8 : ∀ k, 8 ≤ k → k < 17 → σ2.1 k = σ.1 k := fun k a b => eo k (by omega) (by omega) (by omega)
      have ru := ru_same h hr8
      have Nn : ∀ j, ¬ j = σ.1 1 6 → ¬ j = 180 → σ2.1 89 j = σ.1 89 j := fun j a b => by rw [hN, updA_ne b, updA_ne (by omega)]
      refine ⟨r', rfl, by omega, mk_inv h ⟨by omega, by rw [fo 7 (by decide)]; exact hW, by rw [fo 8 (by decide)]; exact ho.2.2.1, by rw [fo 9 (by decide)]; exact ho.2.2.2.1, by rw [fo 10 (by decide)]; exact ho.2.2.2.2.1, by rw [fo 11 (by decide)]; exact ho.2.2.2.2.2.1, by show ∀ j, 0 ≤ j → j < 15 → 0 ≤ σ2.1 6 j ∧ σ2.1 6 j ≤ 12; rw [eo 6 (by decide) (by decide) (by decide)]; exact ho.2.2.2.2.2.2.1, by show ∀ j, 0 ≤ j → j < 3 → 0 ≤ σ2.1 3 j ∧ σ2.1 3 j ≤ 60; rw [eo 3 (by decide) (by decide) (by decide)]; exact ho.2.2.2.2.2.2.2.1, by show ∀ j, 0 ≤ j → j < 15 → 0 ≤ σ2.1 4 j ∧ σ2.1 4 j ≤ 200; rw [eo 4 (by decide) (by decide) (by decide)]; exact ho.2.2.2.2.2.2.2.2.1, by show ∀ j, 0 ≤ j → j < 15 → 0 ≤ σ2.1 5 j ∧ σ2.1 5 j ≤ 50; rw [eo 5 (by decide) (by decide) (by decide)]; exact ho.2.2.2.2.2.2.2.2.2.1, ?_, ru⟩ ⟨?_, ?_, ?_⟩ ⟨⟨?_, ?_, ?_⟩, ?_, ?_, ?_⟩ (mrr_of hR ?_ ?_ ?_ (fun j a b => Nn j (by omega) (by omega)) hr8) (fun k q => eo k (by omega) (by omega) (by omega)) ?_⟩
      · show ∀ j, 0 ≤ j → j < 5 → 0 ≤ σ2.1 2 j ∧ σ2.1 2 j ≤ 12
        intro j a b
        rw [e2]
        unfold updA
        split
        · exact h1
        · exact ho.2.2.2.2.2.2.2.2.2.2.1 j a b
      · show ∀ g w, 0 ≤ g → g < 5 → 0 ≤ w → w < 3 → (σ2.1 1 7 ≤ w ∨ σ2.1 1 6 ≤ g) → σ2.1 6 (g * 3 + w) = 0
        intro g w a b c d q
        rw [eo 6 (by decide) (by decide) (by decide)]
        rw [f6, fo 7 (by decide)] at q
        exact hX.1 g w a b c d (by omega)
      · show ∀ g w, 0 ≤ g → g < 5 → 0 ≤ w → w < 3 → σ2.1 1 7 ≤ w → σ2.1 4 (g * 3 + w) = 0 ∧ σ2.1 5 (g * 3 + w) = 0
        rw [eo 4 (by decide) (by decide) (by decide), eo 5 (by decide) (by decide) (by decide), fo 7 (by decide)]
        exact hX.2.1
      · show ∀ g, 0 ≤ g → g < 5 → gv (σ2.1 6) g ≤ σ2.1 2 g
        intro g a b
        rw [eo 6 (by decide) (by decide) (by decide), e2]
        unfold updA
        split
        · next q =>
          have z := fun w (p : 0 ≤ w) (s : w < 3) => hX.1 g w a b p s (Or.inr (by omega))
          unfold gv
          have z0 := z 0 (by decide) (by decide)
          have z1 := z 1 (by decide) (by decide)
          have z2 := z 2 (by decide) (by decide)
          change σ.1 6 (g * 3 + 0) = 0 at z0
          change σ.1 6 (g * 3 + 1) = 0 at z1
          change σ.1 6 (g * 3 + 2) = 0 at z2
          omega
        · exact hX.2.2 g a b
      · rw [hN, updA_at, f6]
      · rw [Nn 181 (by omega) (by decide), fo 7 (by decide)]; exact p181
      · rw [Nn 53 (by omega) (by decide), fo 8 (by decide)]; exact hP.1.2.2
      · show ∀ j, 0 ≤ j → j < 5 → σ2.1 89 j = σ2.1 2 j
        intro j a b
        rw [hN, updA_ne (by omega), e2]
        by_cases q : j = σ.1 1 6
        · rw [q, show 0 + σ.1 1 6 = σ.1 1 6 by omega, updA_at, updA_at]
        · rw [updA_ne (by omega), updA_ne q]; exact hP.2.1 j a b
      · show ∀ j, 0 ≤ j → j < 3 → σ2.1 89 (50 + j) = σ2.1 3 j
        intro j a b
        rw [Nn (50 + j) (by omega) (by omega), eo 3 (by decide) (by decide) (by decide)]
        exact hP.2.2.1 j a b
      · show ∀ j, 0 ≤ j → j < 15 → σ2.1 89 (5 + 2 * j) = σ2.1 4 j ∧ σ2.1 89 (6 + 2 * j) = σ2.1 5 j ∧ σ2.1 89 (35 + j) = σ2.1 6 j
        intro j a b
        rw [Nn (5 + 2 * j) (by omega) (by omega), Nn (6 + 2 * j) (by omega) (by omega), Nn (35 + j) (by omega) (by omega), eo 4 (by decide) (by decide) (by decide), eo 5 (by decide) (by decide) (by decide), eo 6 (by decide) (by decide) (by decide)]
        exact hP.2.2.2 j a b
      · rw [Nn 54 (by omega) (by decide), fo 9 (by decide)]; exact hR.1.1
      · rw [Nn 55 (by omega) (by decide), fo 10 (by decide)]; exact hR.1.2.1
      · rw [Nn 56 (by omega) (by decide), fo 11 (by decide)]; exact hR.1.2.2
      · rw [(hF 96 (by decide)).2, hs]; rfl
  · rw [if_neg h1] at hr
    obtain ⟨hr, hs⟩ := hr
    subst hs
    refine ⟨r, rfl, Ev.imp (s_m_giver_ (by rw [p180]; exact hG) (by rw [p181]; exact hW) c hc) ?_⟩
    rintro v2 σ2 ⟨r', rfl, hr'⟩
    rw [if_neg h1] at hr'
    exact ⟨r', rfl, by omega, by rw [hr'.2]; exact h⟩
