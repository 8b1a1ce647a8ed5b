/-! more calls that change the scene -/
theorem p_work {X : AX} {σ : SG} (h : INV σ) (c : Int) (hc : rg c) : Ev X 0 0 9 mX10_work 0 [some (rv 0), some (iv c)] [] σ (QI (fun r σ1 => Ev X 0 0 9 mX11_work 0 [some (rv 88), some (iv c)] [] σ1 (QI (fun r' σ2 => r' = r ∧ INV σ2)))) := by
  obtain ⟨ho, hX, hP, _⟩ := h.1
  have hR := h.R
  have hG := ho.1
  have hW := ho.2.1
  have p180 : σ.1 89 180 = σ.1 1 6 := hP.1.1
  have p181 : σ.1 89 181 = σ.1 1 7 := hP.1.2.1
  refine Ev.imp (s_work ho c hc) ?_
  rintro v σ1 ⟨r, rfl, hr⟩
  by_cases h1 : 0 ≤ c ∧ c ≤ 60
  · rw [if_pos h1] at hr
    by_cases h2 : 3 ≤ σ.1 1 7
    · rw [if_pos h2] at hr
      obtain ⟨hr, hs⟩ := hr
      subst hs
      refine ⟨r, rfl, Ev.imp (s_m_work_ (by rw [p180]; exact hG) (by rw [p181]; exact hW) c hc) ?_⟩
      rintro v2 σ2 ⟨r', rfl, hr'⟩
      rw [if_pos h1, if_pos (by omega)] at hr'
      exact ⟨r', rfl, by omega, by rw [hr'.2]; exact h⟩
    · rw [if_neg h2] at hr
      obtain ⟨hr, hs⟩ := hr
      have n89 : σ1.1 89 = σ.1 89 := by rw [hs, upI_ne (by decide), upI_ne (by decide)]
      refine ⟨r, rfl, Ev.imp (s_m_work_ (by rw [n89, p180]; exact hG) (by rw [n89, p181]; exact hW) c hc) ?_⟩
      rintro v2 σ2 ⟨r', rfl, hr'⟩
      rw [if_pos h1, if_neg (by rw [n89]; omega)] at hr'
      obtain ⟨hr', hN, hF⟩ := hr'
      rw [n89, p181] at hr' hN
      have e1 : σ2.1 1 = updA (σ.1 1) 7 ((σ.1 1 7) + 1) := by rw [(hF 1 (by decide)).1, hs, upI_fn, upI_ne (by decide)]
      have e3 : σ2.1 3 = updA (σ.1 3) (σ.1 1 7) c := by rw [(hF 3 (by decide)).1, hs, upI_ne (by decide), upI_fn]
      have eo : ∀ k, k ∉ [1, 3, 89] → σ2.1 k = σ.1 k := fun k q => by
        simp only [List.mem_cons, List.not_mem_nil, or_false, not_or] at q
        rw [(hF k (by simp only [List.mem_cons, List.not_mem_nil, or_false]; omega)).1, hs, upI_ne (by omega), upI_ne (by omega)]
      have hr8 : ∀ k, 8 ≤ k → k < 17 → σ2.1 k = σ.1 k := fun k a b => eo k (by simp only [List.mem_cons, List.not_mem_nil, or_false]; omega)
      have ru := ru_same h hr8
      have f7 : σ2.1 1 7 = (σ.1 1 7) + 1 := by rw [e1]; exact updA_at
      have fo : ∀ j, ¬ j = 7 → σ2.1 1 j = σ.1 1 j := fun j q => by rw [e1]; exact updA_ne q
      have Nn : ∀ j, ¬ (j = 50 + (σ.1 1 7) ∨ j = 181) → σ2.1 89 j = σ.1 89 j := fun j a => by rw [hN, updA_ne (by omega), updA_ne (by omega)]
      refine ⟨r', rfl, by omega, ?_⟩
      refine mk_inv h ⟨(by rw [fo 6 (by omega)]; exact hG), ?_, (by rw [fo 8 (by omega)]; exact ho.2.2.1), (by rw [fo 9 (by omega)]; exact ho.2.2.2.1), (by rw [fo 10 (by omega)]; exact ho.2.2.2.2.1), (by rw [fo 11 (by omega)]; exact ho.2.2.2.2.2.1), (by show ∀ j, 0 ≤ j → j < 15 → 0 ≤ σ2.1 6 j ∧ σ2.1 6 j ≤ 12; rw [eo 6 (by decide)]; exact ho.2.2.2.2.2.2.1), ?_, (by show ∀ j, 0 ≤ j → j < 15 → 0 ≤ σ2.1 4 j ∧ σ2.1 4 j ≤ 200; rw [eo 4 (by decide)]; exact ho.2.2.2.2.2.2.2.2.1), (by show ∀ j, 0 ≤ j → j < 15 → 0 ≤ σ2.1 5 j ∧ σ2.1 5 j ≤ 50; rw [eo 5 (by decide)]; exact ho.2.2.2.2.2.2.2.2.2.1), (by show ∀ j, 0 ≤ j → j < 5 → 0 ≤ σ2.1 2 j ∧ σ2.1 2 j ≤ 12; rw [eo 2 (by decide)]; exact ho.2.2.2.2.2.2.2.2.2.2.1), ru⟩ ⟨?_, ?_, (by show ∀ g, 0 ≤ g → g < 5 → gv (σ2.1 6) g ≤ σ2.1 2 g; rw [eo 6 (by decide), eo 2 (by decide)]; exact hX.2.2)⟩ ⟨⟨(by rw [Nn 180 (by omega), fo 6 (by omega)]; exact p180), ?_, (by rw [Nn 53 (by omega), fo 8 (by omega)]; exact hP.1.2.2)⟩, (by show ∀ j, 0 ≤ j → j < 5 → σ2.1 89 j = σ2.1 2 j; intro j a b; rw [Nn j (by omega), eo 2 (by decide)]; exact hP.2.1 j a b), ?_, (by show ∀ j, 0 ≤ j → j < 15 → σ2.1 89 (5 + 2 * j) = σ2.1 4 j ∧ σ2.1 89 (6 + 2 * j) = σ2.1 5 j ∧ σ2.1 89 (35 + j) = σ2.1 6 j; intro j a b; rw [Nn (5 + 2 * j) (by omega), Nn (6 + 2 * j) (by omega), Nn (35 + j) (by omega), eo 4 (by decide), eo 5 (by decide), eo 6 (by decide)]; exact hP.2.2.2 j a b)⟩ (mrr_of hR (by rw [Nn 54 (by omega), fo 9 (by omega)]; exact hR.1.1) (by rw [Nn 55 (by omega), fo 10 (by omega)]; exact hR.1.2.1) (by rw [Nn 56 (by omega), fo 11 (by omega)]; exact hR.1.2.2) (fun j a b => Nn j (by omega)) hr8) (fun k q => eo k (by simp only [List.mem_cons, List.not_mem_nil, or_false]; omega)) (by rw [(hF 96 (by decide)).2, hs]; rfl)
      · omega
      · show ∀ j, 0 ≤ j → j < 3 → 0 ≤ σ2.1 3 j ∧ σ2.1 3 j ≤ 60
        intro j a b
        rw [e3]
        unfold updA
        split
        · exact h1
        · exact ho.2.2.2.2.2.2.2.1 j a b
      · show ∀ g w, 0 ≤ g → g < 5 → 0 ≤ w → w < 3 → (σ2.1 1 7 ≤ w ∨ σ2.1 1 6 ≤ g) → σ2.1 6 (g * 3 + w) = 0
        intro g w a b c d q
        rw [eo 6 (by decide)]
        rw [f7, fo 6 (by decide)] at q
        exact hX.1 g w a b c d (by omega)
      · show ∀ g w, 0 ≤ g → g < 5 → 0 ≤ w → w < 3 → σ2.1 1 7 ≤ w → σ2.1 4 (g * 3 + w) = 0 ∧ σ2.1 5 (g * 3 + w) = 0
        intro g w a b c d q
        rw [eo 4 (by decide), eo 5 (by decide)]
        rw [f7] at q
        exact hX.2.1 g w a b c d (by omega)
      · rw [hN, updA_at, f7]
      · show ∀ j, 0 ≤ j → j < 3 → σ2.1 89 (50 + j) = σ2.1 3 j
        intro j a b
        rw [hN, updA_ne (by omega), e3]
        by_cases q : j = (σ.1 1 7)
        · rw [q, updA_at, updA_at]
        · rw [updA_ne (by omega), updA_ne q]; exact hP.2.2.1 j a b
  · rw [if_neg h1] at hr
    obtain ⟨hr, hs⟩ := hr
    subst hs
    refine ⟨r, rfl, Ev.imp (s_m_work_ (by rw [p180]; exact hG) (by rw [p181]; exact hW) c hc) ?_⟩
    rintro v2 σ2 ⟨r', rfl, hr'⟩
    rw [if_neg h1] at hr'
    exact ⟨r', rfl, by omega, by rw [hr'.2]; exact h⟩

theorem p_worth {X : AX} {σ : SG} (h : INV σ) (g w a b : Int) (hg : rg g) (hw : rg w) (ha : rg a) (hb : rg b) : Ev X 0 0 9 mX10_worth 0 [some (rv 0), some (iv g), some (iv w), some (iv a), some (iv b)] [] σ (QI (fun r σ1 => Ev X 0 0 9 mX11_worth 0 [some (rv 88), some (iv g), some (iv w), some (iv a), some (iv b)] [] σ1 (QI (fun r' σ2 => r' = r ∧ INV σ2)))) := by
  obtain ⟨ho, hX, hP, _⟩ := h.1
  have hR := h.R
  have hG := ho.1
  have hW := ho.2.1
  have p180 : σ.1 89 180 = σ.1 1 6 := hP.1.1
  have p181 : σ.1 89 181 = σ.1 1 7 := hP.1.2.1
  refine Ev.imp (s_worth ho g w a b hg hw ha hb) ?_
  rintro v σ1 ⟨r, rfl, hr⟩
  by_cases h1 : ((0 ≤ g ∧ g < σ.1 1 6) ∧ (0 ≤ w ∧ w < σ.1 1 7)) ∧ (0 ≤ a ∧ a ≤ 200) ∧ (0 ≤ b ∧ b ≤ 50)
  · rw [if_pos h1] at hr
    obtain ⟨hr, hs⟩ := hr
    have n89 : σ1.1 89 = σ.1 89 := by rw [hs, upI_ne (by decide), upI_ne (by decide)]
    refine ⟨r, rfl, Ev.imp (s_m_worth (by rw [n89, p180]; exact hG) (by rw [n89, p181]; exact hW) g w a b hg hw ha hb) ?_⟩
    rintro v2 σ2 ⟨r', rfl, hr'⟩
    rw [n89, p180, p181, if_pos h1] at hr'
    obtain ⟨hr', hN, hF⟩ := hr'
    have e4 : σ2.1 4 = updA (σ.1 4) (g * 3 + w) a := by rw [(hF 4 (by decide)).1, hs, upI_ne (by decide), upI_fn]
    have e5 : σ2.1 5 = updA (σ.1 5) (g * 3 + w) b := by rw [(hF 5 (by decide)).1, hs, upI_fn, upI_ne (by decide)]
    have eo : ∀ k, k ∉ [4, 5, 89] → σ2.1 k = σ.1 k := fun k q => by
      simp only [List.mem_cons, List.not_mem_nil, or_false, not_or] at q
      rw [(hF k (by simp only [List.mem_cons, List.not_mem_nil, or_false]; omega)).1, hs, upI_ne (by omega), upI_ne (by omega)]
    have hr8 : ∀ k, 8 ≤ k → k < 17 → σ2.1 k = σ.1 k := fun k a b => eo k (by simp only [List.mem_cons, List.not_mem_nil, or_false]; omega)
    have ru := ru_same h hr8
    have fo : ∀ j, ¬ j = -1 → σ2.1 1 j = σ.1 1 j := fun j q => by rw [eo 1 (by decide)]
    have Nn : ∀ j, ¬ (j = 5 + 2 * (g * 3 + w) ∨ j = 6 + 2 * (g * 3 + w)) → σ2.1 89 j = σ.1 89 j := fun j q => by rw [hN, updA_ne (by omega), updA_ne (by omega)]
    refine ⟨r', rfl, by omega, ?_⟩
    refine mk_inv h ⟨(by rw [fo 6 (by omega)]; exact hG), (by rw [fo 7 (by omega)]; exact hW), (by rw [fo 8 (by omega)]; exact ho.2.2.1), (by rw [fo 9 (by omega)]; exact ho.2.2.2.1), (by rw [fo 10 (by omega)]; exact ho.2.2.2.2.1), (by rw [fo 11 (by omega)]; exact ho.2.2.2.2.2.1), (by show ∀ j, 0 ≤ j → j < 15 → 0 ≤ σ2.1 6 j ∧ σ2.1 6 j ≤ 12; rw [eo 6 (by decide)]; exact ho.2.2.2.2.2.2.1), (by show ∀ j, 0 ≤ j → j < 3 → 0 ≤ σ2.1 3 j ∧ σ2.1 3 j ≤ 60; rw [eo 3 (by decide)]; exact ho.2.2.2.2.2.2.2.1), ?_, ?_, (by show ∀ j, 0 ≤ j → j < 5 → 0 ≤ σ2.1 2 j ∧ σ2.1 2 j ≤ 12; rw [eo 2 (by decide)]; exact ho.2.2.2.2.2.2.2.2.2.2.1), ru⟩ ⟨(by show ∀ g w, 0 ≤ g → g < 5 → 0 ≤ w → w < 3 → (σ2.1 1 7 ≤ w ∨ σ2.1 1 6 ≤ g) → σ2.1 6 (g * 3 + w) = 0; rw [eo 6 (by decide), fo 6 (by omega), fo 7 (by omega)]; exact hX.1), ?_, (by show ∀ g, 0 ≤ g → g < 5 → gv (σ2.1 6) g ≤ σ2.1 2 g; rw [eo 6 (by decide), eo 2 (by decide)]; exact hX.2.2)⟩ ⟨⟨(by rw [Nn 180 (by omega), fo 6 (by omega)]; exact p180), (by rw [Nn 181 (by omega), fo 7 (by omega)]; exact p181), (by rw [Nn 53 (by omega), fo 8 (by omega)]; exact hP.1.2.2)⟩, (by show ∀ j, 0 ≤ j → j < 5 → σ2.1 89 j = σ2.1 2 j; intro j a b; rw [Nn j (by omega), eo 2 (by decide)]; exact hP.2.1 j a b), (by show ∀ j, 0 ≤ j → j < 3 → σ2.1 89 (50 + j) = σ2.1 3 j; intro j a b; rw [Nn (50 + j) (by omega), eo 3 (by decide)]; exact hP.2.2.1 j a b), ?_⟩ (mrr_of hR (by rw [Nn 54 (by omega), fo 9 (by omega)]; exact hR.1.1) (by rw [Nn 55 (by omega), fo 10 (by omega)]; exact hR.1.2.1) (by rw [Nn 56 (by omega), fo 11 (by omega)]; exact hR.1.2.2) (fun j a b => Nn j (by omega)) hr8) (fun k q => eo k (by simp only [List.mem_cons, List.not_mem_nil, or_false]; omega)) (by rw [(hF 96 (by decide)).2, hs]; rfl)
    · show ∀ j, 0 ≤ j → j < 15 → 0 ≤ σ2.1 4 j ∧ σ2.1 4 j ≤ 200
      intro j p q
      rw [e4]
      unfold updA
      split
      · exact h1.2.1
      · exact ho.2.2.2.2.2.2.2.2.1 j p q
    · show ∀ j, 0 ≤ j → j < 15 → 0 ≤ σ2.1 5 j ∧ σ2.1 5 j ≤ 50
      intro j p q
      rw [e5]
      unfold updA
      split
      · exact h1.2.2
      · exact ho.2.2.2.2.2.2.2.2.2.1 j p q
    · show ∀ g w, 0 ≤ g → g < 5 → 0 ≤ w → w < 3 → σ2.1 1 7 ≤ w → σ2.1 4 (g * 3 + w) = 0 ∧ σ2.1 5 (g * 3 + w) = 0
      intro g' w' p q r s t
      rw [fo 7 (by decide)] at t
      rw [e4, e5, updA_ne (by omega), updA_ne (by omega)]
      exact hX.2.1 g' w' p q r s t
    · show ∀ j, 0 ≤ j → j < 15 → σ2.1 89 (5 + 2 * j) = σ2.1 4 j ∧ σ2.1 89 (6 + 2 * j) = σ2.1 5 j ∧ σ2.1 89 (35 + j) = σ2.1 6 j
      intro j p q
      have z := hP.2.2.2 j p q
      refine ⟨?_, ?_, by rw [Nn (35 + j) (by omega), eo 6 (by decide)]; exact z.2.2⟩
      · by_cases e : j = (g * 3 + w)
        · rw [e, hN, updA_ne (by omega), updA_at, e4, updA_at]
        · rw [Nn (5 + 2 * j) (by omega), e4, updA_ne e]; exact z.1
      · by_cases e : j = (g * 3 + w)
        · rw [e, hN, updA_at, e5, updA_at]
        · rw [Nn (6 + 2 * j) (by omega), e5, updA_ne e]; exact z.2.1
  · rw [if_neg h1] at hr
    obtain ⟨hr, hs⟩ := hr
    subst hs
    refine ⟨r, rfl, Ev.imp (s_m_worth (by rw [p180]; exact hG) (by rw [p181]; exact hW) g w a b hg hw ha hb) ?_⟩
    rintro v2 σ2 ⟨r', rfl, hr'⟩
    rw [p180, p181, if_neg h1] at hr'
    exact ⟨r', rfl, by omega, by rw [hr'.2]; exact h⟩

theorem p_set {X : AX} {σ : SG} (h : INV σ) (k x : Int) (hk : rg k) (hx : rg x) : Ev X 0 0 9 mX10_set 0 [some (rv 0), some (iv k), some (iv x)] [] σ (QI (fun r σ1 => Ev X 0 0 9 mX11_set 0 [some (rv 88), some (iv k), some (iv x), none] [] σ1 (QI (fun r' σ2 => r' = r ∧ INV σ2)))) := by
  obtain ⟨ho, hX, hP, _⟩ := h.1
  have hR := h.R
  have hG := ho.1
  have hW := ho.2.1
  have p180 : σ.1 89 180 = σ.1 1 6 := hP.1.1
  have p181 : σ.1 89 181 = σ.1 1 7 := hP.1.2.1
  refine Ev.imp (s_set k x hk hx) ?_
  rintro v σ1 ⟨r, rfl, hr⟩
  by_cases h1 : (k = 0 ∧ 0 ≤ x ∧ x ≤ 99) ∨ (k = 1 ∧ 0 ≤ x ∧ x ≤ 2) ∨ (k = 2 ∧ 0 ≤ x ∧ x ≤ 200) ∨ (k = 3 ∧ 0 ≤ x ∧ x ≤ 2)
  · rw [if_pos h1] at hr
    obtain ⟨hr, hs⟩ := hr
    have n89 : σ1.1 89 = σ.1 89 := by rw [hs, upI_ne (by decide)]
    refine ⟨r, rfl, Ev.imp (s_m_set k x hk hx) ?_⟩
    rintro v2 σ2 ⟨r', rfl, hr'⟩
    rw [if_pos h1, n89] at hr'
    obtain ⟨hr', hN, hF⟩ := hr'
    have e1 : σ2.1 1 = updA (σ.1 1) (8 + k) x := by rw [(hF 1 (by decide)).1, hs, upI_fn]
    have eo : ∀ k, k ∉ [1, 89] → σ2.1 k = σ.1 k := fun k q => by
      simp only [List.mem_cons, List.not_mem_nil, or_false, not_or] at q
      rw [(hF k (by simp only [List.mem_cons, List.not_mem_nil, or_false]; omega)).1, hs, upI_ne (by omega)]
    have hr8 : ∀ k, 8 ≤ k → k < 17 → σ2.1 k = σ.1 k := fun k a b => eo k (by simp only [List.mem_cons, List.not_mem_nil, or_false]; omega)
    have ru := ru_same h hr8
    have fk : σ2.1 1 (8 + k) = x := by rw [e1]; exact updA_at
    have fo : ∀ j, ¬ j = 8 + k → σ2.1 1 j = σ.1 1 j := fun j q => by rw [e1]; exact updA_ne q
    have nk : σ2.1 89 (53 + k) = x := by rw [hN]; exact updA_at
    have Nn : ∀ j, ¬ j = 53 + k → σ2.1 89 j = σ.1 89 j := fun j q => by rw [hN, updA_ne q]
    refine ⟨r', rfl, ?_, ?_⟩
    · rw [hr', hr]
      rcases (show k = 0 ∨ k = 1 ∨ k = 2 ∨ k = 3 by omega) with rfl | rfl | rfl | rfl
      · exact hP.1.2.2
      · exact hR.1.1
      · exact hR.1.2.1
      · exact hR.1.2.2
    · refine mk_inv h ⟨(by rw [fo 6 (by omega)]; exact hG), (by rw [fo 7 (by omega)]; exact hW), ?_, ?_, ?_, ?_, (by show ∀ j, 0 ≤ j → j < 15 → 0 ≤ σ2.1 6 j ∧ σ2.1 6 j ≤ 12; rw [eo 6 (by decide)]; exact ho.2.2.2.2.2.2.1), (by show ∀ j, 0 ≤ j → j < 3 → 0 ≤ σ2.1 3 j ∧ σ2.1 3 j ≤ 60; rw [eo 3 (by decide)]; exact ho.2.2.2.2.2.2.2.1), (by show ∀ j, 0 ≤ j → j < 15 → 0 ≤ σ2.1 4 j ∧ σ2.1 4 j ≤ 200; rw [eo 4 (by decide)]; exact ho.2.2.2.2.2.2.2.2.1), (by show ∀ j, 0 ≤ j → j < 15 → 0 ≤ σ2.1 5 j ∧ σ2.1 5 j ≤ 50; rw [eo 5 (by decide)]; exact ho.2.2.2.2.2.2.2.2.2.1), (by show ∀ j, 0 ≤ j → j < 5 → 0 ≤ σ2.1 2 j ∧ σ2.1 2 j ≤ 12; rw [eo 2 (by decide)]; exact ho.2.2.2.2.2.2.2.2.2.2.1), ru⟩ ⟨(by show ∀ g w, 0 ≤ g → g < 5 → 0 ≤ w → w < 3 → (σ2.1 1 7 ≤ w ∨ σ2.1 1 6 ≤ g) → σ2.1 6 (g * 3 + w) = 0; rw [eo 6 (by decide), fo 6 (by omega), fo 7 (by omega)]; exact hX.1), (by show ∀ g w, 0 ≤ g → g < 5 → 0 ≤ w → w < 3 → σ2.1 1 7 ≤ w → σ2.1 4 (g * 3 + w) = 0 ∧ σ2.1 5 (g * 3 + w) = 0; rw [eo 4 (by decide), eo 5 (by decide), fo 7 (by omega)]; exact hX.2.1), (by show ∀ g, 0 ≤ g → g < 5 → gv (σ2.1 6) g ≤ σ2.1 2 g; rw [eo 6 (by decide), eo 2 (by decide)]; exact hX.2.2)⟩ ⟨⟨(by rw [Nn 180 (by omega), fo 6 (by omega)]; exact p180), (by rw [Nn 181 (by omega), fo 7 (by omega)]; exact p181), ?_⟩, (by show ∀ j, 0 ≤ j → j < 5 → σ2.1 89 j = σ2.1 2 j; intro j a b; rw [Nn j (by omega), eo 2 (by decide)]; exact hP.2.1 j a b), (by show ∀ j, 0 ≤ j → j < 3 → σ2.1 89 (50 + j) = σ2.1 3 j; intro j a b; rw [Nn (50 + j) (by omega), eo 3 (by decide)]; exact hP.2.2.1 j a b), (by show ∀ j, 0 ≤ j → j < 15 → σ2.1 89 (5 + 2 * j) = σ2.1 4 j ∧ σ2.1 89 (6 + 2 * j) = σ2.1 5 j ∧ σ2.1 89 (35 + j) = σ2.1 6 j; intro j a b; rw [Nn (5 + 2 * j) (by omega), Nn (6 + 2 * j) (by omega), Nn (35 + j) (by omega), eo 4 (by decide), eo 5 (by decide), eo 6 (by decide)]; exact hP.2.2.2 j a b)⟩ (mrr_of hR ?_ ?_ ?_ (fun j a b => Nn j (by omega)) hr8) (fun k q => eo k (by simp only [List.mem_cons, List.not_mem_nil, or_false]; omega)) (by rw [(hF 96 (by decide)).2, hs]; rfl)
      · by_cases q : k = 0
        · rw [q] at fk; change σ2.1 1 8 = x at fk; rw [fk]; omega
        · rw [fo 8 (by omega)]; exact ho.2.2.1
      · by_cases q : k = 1
        · rw [q] at fk; change σ2.1 1 9 = x at fk; rw [fk]; omega
        · rw [fo 9 (by omega)]; exact ho.2.2.2.1
      · by_cases q : k = 2
        · rw [q] at fk; change σ2.1 1 10 = x at fk; rw [fk]; omega
        · rw [fo 10 (by omega)]; exact ho.2.2.2.2.1
      · by_cases q : k = 3
        · rw [q] at fk; change σ2.1 1 11 = x at fk; rw [fk]; omega
        · rw [fo 11 (by omega)]; exact ho.2.2.2.2.2.1
      · by_cases q : k = 0
        · rw [q] at fk nk; change σ2.1 1 8 = x at fk; change σ2.1 89 53 = x at nk; rw [fk, nk]
        · rw [Nn 53 (by omega), fo 8 (by omega)]; exact hP.1.2.2
      · by_cases q : k = 1
        · rw [q] at fk nk; change σ2.1 1 9 = x at fk; change σ2.1 89 54 = x at nk; rw [fk, nk]
        · rw [Nn 54 (by omega), fo 9 (by omega)]; exact hR.1.1
      · by_cases q : k = 2
        · rw [q] at fk nk; change σ2.1 1 10 = x at fk; change σ2.1 89 55 = x at nk; rw [fk, nk]
        · rw [Nn 55 (by omega), fo 10 (by omega)]; exact hR.1.2.1
      · by_cases q : k = 3
        · rw [q] at fk nk; change σ2.1 1 11 = x at fk; change σ2.1 89 56 = x at nk; rw [fk, nk]
        · rw [Nn 56 (by omega), fo 11 (by omega)]; exact hR.1.2.2
  · rw [if_neg h1] at hr
    obtain ⟨hr, hs⟩ := hr
    subst hs
    refine ⟨r, rfl, Ev.imp (s_m_set k x hk hx) ?_⟩
    rintro v2 σ2 ⟨r', rfl, hr'⟩
    rw [if_neg h1] at hr'
    exact ⟨r', rfl, by omega, by rw [hr'.2]; exact h⟩

theorem p_give {X : AX} {σ : SG} (h : INV σ) (g w a : Int) (hg : rg g) (hw : rg w) (ha : rg a) : Ev X 0 0 9 mX10_give 0 [some (rv 0), some (iv g), some (iv w), some (iv a), none, none] [] σ (QI (fun r σ1 => Ev X 0 0 9 mX11_give 0 [some (rv 88), some (iv g), some (iv w), some (iv a), none, none] [] σ1 (QI (fun r' σ2 => r' = r ∧ INV σ2)))) := by
  obtain ⟨ho, hX, hP, _⟩ := h.1
  have hR := h.R
  have hG := ho.1
  have hW := ho.2.1
  have p180 : σ.1 89 180 = σ.1 1 6 := hP.1.1
  have p181 : σ.1 89 181 = σ.1 1 7 := hP.1.2.1
  refine Ev.imp (s_give ho g w a hg hw ha) ?_
  rintro v σ1 ⟨r, rfl, hr⟩
  by_cases h1 : (((0 ≤ g ∧ g < σ.1 1 6) ∧ (0 ≤ w ∧ w < σ.1 1 7)) ∧ (0 ≤ a ∧ a ≤ 12)) ∧ gv (σ.1 6) g - σ.1 6 (g * 3 + w) + a ≤ σ.1 2 g
  · rw [if_pos h1] at hr
    obtain ⟨hr, hs⟩ := hr
    have hF1 : Fr [6] σ σ1 := by rw [hs]; exact fr_I Fr.rf (by decide)
    have hM := md_cls h hF1 (by decide) (by decide) (by decide) (by decide)
    have n89 : σ1.1 89 = σ.1 89 := (hF1 89 (by decide)).1
    refine ⟨r, rfl, Ev.imp (s_m_give hM.1 g w a hg hw ha) ?_⟩
    rintro v2 σ2 ⟨r', rfl, hr'⟩
    have hr2 := Eq.mp (if_pos h1) hr'
    rw [n89] at hr2
    obtain ⟨hr3, hN, hF⟩ := hr2
    have e6 : σ2.1 6 = updA (σ.1 6) (g * 3 + w) a := by rw [(hF 6 (by decide)).1, hs, upI_fn]
    have eo : ∀ k, k ∉ [6, 89] → σ2.1 k = σ.1 k := fun k q => by
      simp only [List.mem_cons, List.not_mem_nil, or_false, not_or] at q
      rw [(hF k (by simp only [List.mem_cons, List.not_mem_nil, or_false]; omega)).1, hs, upI_ne (by omega)]
    have hr8 : ∀ k, 8 ≤ k → k < 17 → σ2.1 k = σ.1 k := fun k a b => eo k (by simp only [List.mem_cons, List.not_mem_nil, or_false]; omega)
    have ru := ru_same h hr8
    have fo : ∀ j, ¬ j = -1 → σ2.1 1 j = σ.1 1 j := fun j q => by rw [eo 1 (by decide)]
    have Nn : ∀ j, ¬ j = 35 + (g * 3 + w) → σ2.1 89 j = σ.1 89 j := fun j q => by rw [hN, updA_ne q]
    refine ⟨r', rfl, hr3.trans hr.symm, ?_⟩
    refine mk_inv h ⟨(by rw [fo 6 (by omega)]; exact hG), (by rw [fo 7 (by omega)]; exact hW), (by rw [fo 8 (by omega)]; exact ho.2.2.1), (by rw [fo 9 (by omega)]; exact ho.2.2.2.1), (by rw [fo 10 (by omega)]; exact ho.2.2.2.2.1), (by rw [fo 11 (by omega)]; exact ho.2.2.2.2.2.1), ?_, (by show ∀ j, 0 ≤ j → j < 3 → 0 ≤ σ2.1 3 j ∧ σ2.1 3 j ≤ 60; rw [eo 3 (by decide)]; exact ho.2.2.2.2.2.2.2.1), (by show ∀ j, 0 ≤ j → j < 15 → 0 ≤ σ2.1 4 j ∧ σ2.1 4 j ≤ 200; rw [eo 4 (by decide)]; exact ho.2.2.2.2.2.2.2.2.1), (by show ∀ j, 0 ≤ j → j < 15 → 0 ≤ σ2.1 5 j ∧ σ2.1 5 j ≤ 50; rw [eo 5 (by decide)]; exact ho.2.2.2.2.2.2.2.2.2.1), (by show ∀ j, 0 ≤ j → j < 5 → 0 ≤ σ2.1 2 j ∧ σ2.1 2 j ≤ 12; rw [eo 2 (by decide)]; exact ho.2.2.2.2.2.2.2.2.2.2.1), ru⟩ ⟨?_, (by show ∀ g w, 0 ≤ g → g < 5 → 0 ≤ w → w < 3 → σ2.1 1 7 ≤ w → σ2.1 4 (g * 3 + w) = 0 ∧ σ2.1 5 (g * 3 + w) = 0; rw [eo 4 (by decide), eo 5 (by decide), fo 7 (by omega)]; exact hX.2.1), ?_⟩ ⟨⟨(by rw [Nn 180 (by omega), fo 6 (by omega)]; exact p180), (by rw [Nn 181 (by omega), fo 7 (by omega)]; exact p181), (by rw [Nn 53 (by omega), fo 8 (by omega)]; exact hP.1.2.2)⟩, (by show ∀ j, 0 ≤ j → j < 5 → σ2.1 89 j = σ2.1 2 j; intro j a b; rw [Nn j (by omega), eo 2 (by decide)]; exact hP.2.1 j a b), (by show ∀ j, 0 ≤ j → j < 3 → σ2.1 89 (50 + j) = σ2.1 3 j; intro j a b; rw [Nn (50 + j) (by omega), eo 3 (by decide)]; exact hP.2.2.1 j a b), ?_⟩ (mrr_of hR (by rw [Nn 54 (by omega), fo 9 (by omega)]; exact hR.1.1) (by rw [Nn 55 (by omega), fo 10 (by omega)]; exact hR.1.2.1) (by rw [Nn 56 (by omega), fo 11 (by omega)]; exact hR.1.2.2) (fun j a b => Nn j (by omega)) hr8) (fun k q => eo k (by simp only [List.mem_cons, List.not_mem_nil, or_false]; omega)) (by rw [(hF 96 (by decide)).2, hs]; rfl)
    · show ∀ j, 0 ≤ j → j < 15 → 0 ≤ σ2.1 6 j ∧ σ2.1 6 j ≤ 12
      intro j p q
      rw [e6]
      unfold updA
      split
      · exact h1.1.2
      · exact ho.2.2.2.2.2.2.1 j p q
    · show ∀ g w, 0 ≤ g → g < 5 → 0 ≤ w → w < 3 → (σ2.1 1 7 ≤ w ∨ σ2.1 1 6 ≤ g) → σ2.1 6 (g * 3 + w) = 0
      intro g' w' p q r s t
      rw [fo 6 (by decide), fo 7 (by decide)] at t
      rw [e6, updA_ne (by omega)]
      exact hX.1 g' w' p q r s t
    · show ∀ g, 0 ≤ g → g < 5 → gv (σ2.1 6) g ≤ σ2.1 2 g
      intro g' p q
      rw [e6, eo 2 (by decide)]
      have z := hX.2.2 g' p q
      change gv (σ.1 6) g' ≤ σ.1 2 g' at z
      by_cases e : g' = g
      · subst e
        have h3 := h1.2
        unfold gv at h3 ⊢
        unfold updA
        rcases (show w = 0 ∨ w = 1 ∨ w = 2 by omega) with rfl | rfl | rfl
        · rw [if_pos rfl, if_neg (by omega), if_neg (by omega)]; omega
        · rw [if_neg (by omega), if_pos rfl, if_neg (by omega)]; omega
        · rw [if_neg (by omega), if_neg (by omega), if_pos rfl]; omega
      · unfold gv at z ⊢
        rw [updA_ne (by omega), updA_ne (by omega), updA_ne (by omega)]
        exact z
    · show ∀ j, 0 ≤ j → j < 15 → σ2.1 89 (5 + 2 * j) = σ2.1 4 j ∧ σ2.1 89 (6 + 2 * j) = σ2.1 5 j ∧ σ2.1 89 (35 + j) = σ2.1 6 j
      intro j p q
      have z := hP.2.2.2 j p q
      refine ⟨by rw [Nn (5 + 2 * j) (by omega), eo 4 (by decide)]; exact z.1, by rw [Nn (6 + 2 * j) (by omega), eo 5 (by decide)]; exact z.2.1, ?_⟩
      by_cases e : j = (g * 3 + w)
      · rw [e, hN, updA_at, e6, updA_at]
      · rw [Nn (35 + j) (by omega), e6, updA_ne e]; exact z.2.2
  · rw [if_neg h1] at hr
    obtain ⟨hr, hs⟩ := hr
    subst hs
    refine ⟨r, rfl, Ev.imp (s_m_give h.1 g w a hg hw ha) ?_⟩
    rintro v2 σ2 ⟨r', rfl, hr'⟩
    have hr2 := Eq.mp (if_neg h1) hr'
    exact ⟨r', rfl, by omega, by rw [hr2.2]; exact h⟩
