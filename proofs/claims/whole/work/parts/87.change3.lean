/-! calls that change rules and scenes -/
theorem sc_keep {σ τ : SG} (h : ScOK σ 1) (e : ∀ k, 1 ≤ k → k < 8 → τ.1 k = σ.1 k) (r8 : RlOK τ 8) (r11 : RlOK τ 11) (r14 : RlOK τ 14) : ScOK τ 1 := by
  obtain ⟨a1, a2, a3, a4, a5, a6, a7, a8, a9, a10, a11, _⟩ := h
  unfold ScOK
  rw [e 1 (by decide) (by decide), e (1 + 5) (by decide) (by decide), e (1 + 2) (by decide) (by decide), e (1 + 3) (by decide) (by decide), e (1 + 4) (by decide) (by decide), e (1 + 1) (by decide) (by decide)]
  exact ⟨a1, a2, a3, a4, a5, a6, a7, a8, a9, a10, a11, r8, r11, r14⟩
theorem scx_keep {σ τ : SG} (h : ScX σ 1) (e : ∀ k, 1 ≤ k → k < 8 → τ.1 k = σ.1 k) : ScX τ 1 := by
  unfold ScX
  rw [e 1 (by decide) (by decide), e (1 + 5) (by decide) (by decide), e (1 + 3) (by decide) (by decide), e (1 + 4) (by decide) (by decide), e (1 + 1) (by decide) (by decide)]
  exact h
theorem p_keep {N N' : Int → Int} {σ τ : SG} (h : MrP N σ 1) (e : ∀ k, 1 ≤ k → k < 8 → τ.1 k = σ.1 k) (hN : ∀ j, (0 ≤ j ∧ j ≤ 53) ∨ j = 180 ∨ j = 181 → N' j = N j) : MrP N' τ 1 := by
  unfold MrP
  rw [e 1 (by decide) (by decide), e (1 + 5) (by decide) (by decide), e (1 + 2) (by decide) (by decide), e (1 + 3) (by decide) (by decide), e (1 + 4) (by decide) (by decide), e (1 + 1) (by decide) (by decide), hN 180 (by omega), hN 181 (by omega), hN 53 (by omega)]
  refine ⟨h.1, fun j a c => by rw [hN j (by omega)]; exact h.2.1 j a c, fun j a c => by rw [hN (50 + j) (by omega)]; exact h.2.2.1 j a c, fun j a c => ?_⟩
  rw [hN (5 + 2 * j) (by omega), hN (6 + 2 * j) (by omega), hN (35 + j) (by omega)]
  exact h.2.2.2 j a c
theorem wr_inv {σ τ : SG} (h : INV σ) (u : Int) (hu : 0 ≤ u ∧ u ≤ 2) (hRu : RuI τ (rcN 1 u)) (h2 : τ.1 89 (57 + 41 * u) = τ.1 (rcN 1 u) 2) (h3 : ∀ k, 0 ≤ k → k < τ.1 (rcN 1 u) 2 → τ.1 89 (57 + 41 * u + 1 + k) = τ.1 (rcN 1 u + 1) k) (hN : ∀ j, ¬ (57 + 41 * u ≤ j ∧ j < 57 + 41 * u + 41) → τ.1 89 j = σ.1 89 j) (ho : ∀ k, ¬ (35 ≤ k ∧ k ≤ 36) → ¬ (rcN 1 u ≤ k ∧ k < rcN 1 u + 3) → ¬ k = 89 → τ.1 k = σ.1 k) (h96 : τ.2 96 = σ.2 96) : INV τ := by
  have q : rcN 1 u = 1 + 7 + 3 * u.toNat := rfl
  have hR := h.R
  have hv : ∀ v, 0 ≤ v → v ≤ 2 → RuI τ (rcN 1 v) ∧ τ.1 89 (57 + 41 * v) = τ.1 (rcN 1 v) 2 ∧ ∀ k, 0 ≤ k → k < τ.1 (rcN 1 v) 2 → τ.1 89 (57 + 41 * v + 1 + k) = τ.1 (rcN 1 v + 1) k := by
    intro v a c
    by_cases e : v = u
    · rw [e]; exact ⟨hRu, h2, h3⟩
    · have qv : rcN 1 v = 1 + 7 + 3 * v.toNat := rfl
      obtain ⟨g1, g2, g3⟩ := hR.2 v a c
      have e0 := ho (rcN 1 v) (by omega) (by omega) (by omega)
      have e1 := ho (rcN 1 v + 1) (by omega) (by omega) (by omega)
      have e2 := ho (rcN 1 v + 2) (by omega) (by omega) (by omega)
      have hl := (ru_n g1).1
      rw [e0, e1]
      refine ⟨RuI_cg g1 e0 e1 e2, by rw [hN (57 + 41 * v) (by omega)]; exact g2, fun k p r => ?_⟩
      rw [hN (57 + 41 * v + 1 + k) (by omega)]
      exact g3 k p r
  have e : ∀ k, 1 ≤ k → k < 8 → τ.1 k = σ.1 k := fun k a c => ho k (by omega) (by omega) (by omega)
  refine mk_inv h (sc_keep h.1.1 e (Ru_Rl (hv 0 (by decide) (by decide)).1) (Ru_Rl (hv 1 (by decide) (by decide)).1) (Ru_Rl (hv 2 (by decide) (by decide)).1)) (scx_keep h.1.2.1 e) (p_keep h.1.2.2.1 e (fun j a => hN j (by omega))) ⟨⟨?_, ?_, ?_⟩, hv⟩ (fun k a => ho k (by omega) (by omega) (by omega)) h96
  · rw [hN 54 (by omega), e 1 (by decide) (by decide)]; exact hR.1.1
  · rw [hN 55 (by omega), e 1 (by decide) (by decide)]; exact hR.1.2.1
  · rw [hN 56 (by omega), e 1 (by decide) (by decide)]; exact hR.1.2.2
theorem p_write {X : AX} {σ : SG} (h : INV σ) (u c : Int) (hu : rg u) (hc : rg c) : Ev X 0 0 9 mX10_write 0 [some (rv 0), some (iv u), some (iv c), none] [] σ (QI (fun r σ1 => Ev X 0 0 9 mX11_write 0 [some (rv 88), some (iv u), some (iv c), none] [] σ1 (QI (fun r' σ2 => r' = r ∧ INV σ2)))) := by
  have hR := h.R
  have ru := inv_ru h
  have ht : ∀ v, 0 ≤ v → v ≤ 2 → 0 ≤ σ.1 89 (57 + 41 * v) ∧ σ.1 89 (57 + 41 * v) ≤ 40 := fun v a b => by rw [(hR.2 v a b).2.1]; exact (ru_n (hR.2 v a b).1).1
  refine Ev.imp (s_write ru.1 ru.2.1 ru.2.2 u c hu hc) ?_
  rintro v σ1 ⟨r, rfl, hr⟩
  by_cases h1 : (0 ≤ u ∧ u ≤ 2) ∧ (0 ≤ c ∧ c ≤ 127)
  · rw [if_pos h1] at hr
    have q : rcN 1 u = 1 + 7 + 3 * u.toNat := rfl
    obtain ⟨g1, g2, g3⟩ := hR.2 u h1.1.1 h1.1.2
    by_cases h2 : 40 ≤ σ.1 (rcN 1 u) 2
    · rw [if_pos h2] at hr
      obtain ⟨hr, hs⟩ := hr
      have hl := (ru_n g1).1
      rw [hs]
      refine ⟨r, rfl, Ev.imp (s_m_write ht u c hu hc) ?_⟩
      rintro v2 σ2 ⟨r', rfl, hr'⟩
      rw [if_pos h1, if_pos (by omega)] at hr'
      exact ⟨r', rfl, by omega, by rw [hr'.2]; exact h⟩
    · rw [if_neg h2] at hr
      obtain ⟨hr, w1, w2, w3, hF1⟩ := hr
      have hl := (ru_n g1).1
      have n89 : σ1.1 89 = σ.1 89 := (hF1 89 (by simp only [List.mem_cons, List.not_mem_nil, or_false]; omega)).1
      refine ⟨r, rfl, Ev.imp (s_m_write (by rw [n89]; exact ht) u c hu hc) ?_⟩
      rintro v2 σ2 ⟨r', rfl, hr'⟩
      rw [n89, g2, if_pos h1, if_neg (by omega)] at hr'
      obtain ⟨hr', hN, hF⟩ := hr'
      have f0 := (hF (rcN 1 u) (by simp only [List.mem_cons, List.not_mem_nil, or_false]; omega)).1
      have f1 := (hF (rcN 1 u + 1) (by simp only [List.mem_cons, List.not_mem_nil, or_false]; omega)).1
      have f2 := (hF (rcN 1 u + 2) (by simp only [List.mem_cons, List.not_mem_nil, or_false]; omega)).1
      refine ⟨r', rfl, by omega, wr_inv h u h1.1 (RuI_cg w3 f0 f1 f2) (by rw [hN, updA_at, f0, w1]) (fun k a b => ?_) (fun j a => by rw [hN, updA_ne (by omega), updA_ne (by omega)]) (fun k a b d => ?_) ?_⟩
      · rw [f0, w1] at b
        rw [f1, w2, hN, updA_ne (by omega)]
        by_cases e : k = σ.1 (rcN 1 u) 2
        · rw [e, updA_at, updA_at]
        · rw [updA_ne (by omega), updA_ne e]; exact g3 k a (by omega)
      · rw [(hF k (by simp only [List.mem_cons, List.not_mem_nil, or_false]; exact d)).1, (hF1 k (by simp only [List.mem_cons, List.not_mem_nil, or_false]; omega)).1]
      · rw [(hF 96 (by decide)).2, (hF1 96 (by simp only [List.mem_cons, List.not_mem_nil, or_false]; omega)).2]
  · rw [if_neg h1] at hr
    obtain ⟨hr, hs⟩ := hr
    rw [hs]
    refine ⟨r, rfl, Ev.imp (s_m_write ht u c hu hc) ?_⟩
    rintro v2 σ2 ⟨r', rfl, hr'⟩
    rw [if_neg h1] at hr'
    exact ⟨r', rfl, by omega, by rw [hr'.2]; exact h⟩
theorem p_erase {X : AX} {σ : SG} (h : INV σ) (u : Int) (hu : rg u) : Ev X 0 0 9 mX10_erase 0 [some (rv 0), some (iv u), none, none] [] σ (QI (fun r σ1 => Ev X 0 0 9 mX11_erase 0 [some (rv 88), some (iv u), none] [] σ1 (QI (fun r' σ2 => r' = r ∧ INV σ2)))) := by
  have hR := h.R
  have ru := inv_ru h
  refine Ev.imp (s_erase ru.1 ru.2.1 ru.2.2 u hu) ?_
  rintro v σ1 ⟨r, rfl, hr⟩
  by_cases h1 : 0 ≤ u ∧ u ≤ 2
  · rw [if_pos h1] at hr
    have q : rcN 1 u = 1 + 7 + 3 * u.toNat := rfl
    obtain ⟨g1, g2, g3⟩ := hR.2 u h1.1 h1.2
    obtain ⟨hr, w1, w2, w3, hF1⟩ := hr
    have n89 : σ1.1 89 = σ.1 89 := (hF1 89 (by simp only [List.mem_cons, List.not_mem_nil, or_false]; omega)).1
    refine ⟨r, rfl, Ev.imp (s_m_erase u hu) ?_⟩
    rintro v2 σ2 ⟨r', rfl, hr'⟩
    rw [n89, g2, if_pos h1] at hr'
    obtain ⟨hr', hN, hF⟩ := hr'
    have f0 := (hF (rcN 1 u) (by simp only [List.mem_cons, List.not_mem_nil, or_false]; omega)).1
    have f1 := (hF (rcN 1 u + 1) (by simp only [List.mem_cons, List.not_mem_nil, or_false]; omega)).1
    have f2 := (hF (rcN 1 u + 2) (by simp only [List.mem_cons, List.not_mem_nil, or_false]; omega)).1
    refine ⟨r', rfl, by omega, wr_inv h u h1 (RuI_cg w3 f0 f1 f2) (by rw [hN, updA_at, f0, w1]) (fun k a b => ?_) (fun j a => by rw [hN, updA_ne (by omega)]) (fun k a b d => ?_) ?_⟩
    · rw [f0, w1] at b; omega
    · rw [(hF k (by simp only [List.mem_cons, List.not_mem_nil, or_false]; exact d)).1, (hF1 k (by simp only [List.mem_cons, List.not_mem_nil, or_false]; omega)).1]
    · rw [(hF 96 (by decide)).2, (hF1 96 (by simp only [List.mem_cons, List.not_mem_nil, or_false]; omega)).2]
  · rw [if_neg h1] at hr
    obtain ⟨hr, hs⟩ := hr
    rw [hs]
    refine ⟨r, rfl, Ev.imp (s_m_erase u hu) ?_⟩
    rintro v2 σ2 ⟨r', rfl, hr'⟩
    rw [if_neg h1] at hr'
    exact ⟨r', rfl, by omega, by rw [hr'.2]; exact h⟩
theorem p_turns {X : AX} {σ : SG} (h : INV σ) : Ev X 0 0 9 mX10_turns 0 [some (rv 0)] [] σ (QI (fun r σ1 => Ev X 0 0 9 mX11_turns 0 [some (rv 88)] [] σ1 (QI (fun r' σ2 => r' = r ∧ INV σ2)))) := by
  refine Ev.imp (s_turns (Gd_ok 1 (σ.1 1 6)) ⟨h.1.1, h.1.2.1, rfl⟩) ?_
  rintro v σ1 ⟨r, rfl, hr⟩
  by_cases h0 : σ.1 1 6 = 0
  · rw [if_pos h0] at hr
    obtain ⟨hr, hs⟩ := hr
    rw [hs]
    refine ⟨r, rfl, Ev.imp (s_m_turns (d := 0) h.1 (σ.2 48)) ?_⟩
    rintro v2 σ2 ⟨r', rfl, hr'⟩
    rw [if_pos h0] at hr'
    exact ⟨r', rfl, by omega, by rw [hr'.2]; exact h⟩
  · rw [if_neg h0] at hr
    obtain ⟨hr, hS, hF⟩ := hr
    have hM := md_cls h hF (by decide) (by decide) (by decide) (by decide)
    refine ⟨r, rfl, Ev.imp (s_m_turns (d := 0) hM.1 (σ.2 48)) ?_⟩
    rintro v2 σ2 ⟨r', rfl, hr'⟩
    rw [if_neg h0] at hr'
    obtain ⟨hr', hM2, hF2, hK⟩ := hr'
    have eo : ∀ k, (17 ≤ k ∧ k < 33) ∨ k = 34 ∨ (56 ≤ k ∧ k < 88) ∨ k = 90 ∨ k = 91 → σ2.1 k = σ.1 k := fun k a => (hF2 k (by simp only [List.mem_cons, List.not_mem_nil, or_false]; omega)).1.trans (hF k (by simp only [List.mem_cons, List.not_mem_nil, or_false]; omega)).1
    exact ⟨r', rfl, hr'.trans hr.symm, MdI_sc hM2 (fun k a b => (hF2 k (by simp only [List.mem_cons, List.not_mem_nil, or_false]; omega)).1.trans (hS k a b)), hK.1.1.trans hM.2, Bare_cg h.2.2.1 (fun k a b => eo k (by omega)), Img_cg h.2.2.2 (eo 34 (by omega)) (eo 91 (by omega)) (eo 90 (by omega)) (fun k a b => eo k (by omega))⟩
/-! scenes that are like others, in their range -/
theorem rdS_cg {T U : Int → Int} : ∀ n : Nat, (∀ j : Int, 0 ≤ j → j < (n : Int) → U j = T j) → rdS U n = rdS T n
  | 0, _ => rfl
  | n + 1, h => by
    have ih := rdS_cg n (fun j a b => h j a (by omega))
    have e := h (n : Int) (by omega) (by omega)
    simp only [rdS]
    rw [ih, e]
theorem fnS_cg {T U : Int → Int} (n : Nat) (h : ∀ j : Int, 0 ≤ j → j < (n : Int) → U j = T j) : fnS U n = fnS T n := by
  unfold fnS
  rw [rdS_cg n h]
theorem isLst_cg {f g : Int → Int} : ∀ {l : List Int}, isLst f l → (∀ j : Int, 0 ≤ j → j < (l.length : Int) → g j = f j) → isLst g l
  | [], _, _ => trivial
  | v :: r, h, e => by
    have hl : ((v :: r).length : Int) = (r.length : Int) + 1 := rfl
    exact ⟨(e r.length (by omega) (by omega)).trans h.1, isLst_cg h.2 (fun j a b => e j a (by omega))⟩
theorem RuI_eq {σ τ : SG} {r q : Nat} (h : RuI σ q) (e : RlEq τ r σ q) : RuI τ r := by
  have hl := (Ru_Rl h).2.1
  obtain ⟨nn, h1, h2, h3, h4, h5, h6⟩ := h
  have hf := fnS_cg (T := σ.1 (q + 1)) (U := τ.1 (r + 1)) nn (fun j a b => (e.2 j a (by omega)).1)
  refine ⟨nn, h1, by rw [e.1.1]; exact h2, fun j a b => by rw [(e.2 j a b).1]; exact h3 j a b, by rw [e.1.2.1, hf]; exact h4, by rw [e.1.2.2, hf]; exact h5, ?_⟩
  rw [hf]
  exact isLst_cg h6 (fun j a b => (e.2 j a (by omega)).2)
theorem RlOK_eq {σ τ : SG} {r q : Nat} (h : RlOK σ q) (e : RlEq τ r σ q) : RlOK τ r := by
  refine ⟨by rw [e.1.2.2]; exact h.1, by rw [e.1.2.1]; exact h.2.1, fun j a b => ?_⟩
  rw [e.1.2.1] at b
  have hl := h.2.1
  rw [(e.2 j a (by omega)).2]
  exact h.2.2 j a b
theorem ScOK_eq {σ τ : SG} {b c : Nat} (h : ScOK σ c) (e : SnEq τ b σ c) : ScOK τ b := by
  obtain ⟨⟨e6, e7, e8⟩, ⟨e9, e10, e11⟩, p1, p2, p3, p5, r1, r2, r3⟩ := e
  obtain ⟨a1, a2, a3, a4, a5, a6, a7, a8, a9, a10, a11, a12, a13, a14⟩ := h
  exact ⟨by rw [e6]; exact a1, by rw [e7]; exact a2, by rw [e8]; exact a3, by rw [e9]; exact a4, by rw [e10]; exact a5, by rw [e11]; exact a6, fun j x y => by rw [p5 j x y]; exact a7 j x y, fun j x y => by rw [p2 j x y]; exact a8 j x y, fun j x y => by rw [(p3 j x y).1]; exact a9 j x y, fun j x y => by rw [(p3 j x y).2]; exact a10 j x y, fun j x y => by rw [p1 j x y]; exact a11 j x y, RlOK_eq a12 r1, RlOK_eq a13 r2, RlOK_eq a14 r3⟩
theorem ScX_eq {σ τ : SG} {b c : Nat} (h : ScX σ c) (e : SnEq τ b σ c) : ScX τ b := by
  obtain ⟨⟨e6, e7, e8⟩, _, p1, p2, p3, p5, _⟩ := e
  refine ⟨fun g w q1 q2 q3 q4 q5 => ?_, fun g w q1 q2 q3 q4 q5 => ?_, fun g q1 q2 => ?_⟩
  · rw [e6, e7] at q5
    rw [p5 (g * 3 + w) (by omega) (by omega)]
    exact h.1 g w q1 q2 q3 q4 q5
  · rw [e7] at q5
    rw [(p3 (g * 3 + w) (by omega) (by omega)).1, (p3 (g * 3 + w) (by omega) (by omega)).2]
    exact h.2.1 g w q1 q2 q3 q4 q5
  · have z := h.2.2 g q1 q2
    unfold gv at z ⊢
    rw [p5 (g * 3 + 0) (by omega) (by omega), p5 (g * 3 + 1) (by omega) (by omega), p5 (g * 3 + 2) (by omega) (by omega), p1 g q1 q2]
    exact z
theorem MrP_eq {N N' : Int → Int} {σ τ : SG} {b c : Nat} (h : MrP N σ c) (e : SnEq τ b σ c) (hN : ∀ j, 0 ≤ j → j < 182 → N' j = N j) : MrP N' τ b := by
  obtain ⟨⟨e6, e7, e8⟩, _, p1, p2, p3, p5, _⟩ := e
  obtain ⟨⟨n1, n2, n3⟩, m1, m2, m3⟩ := h
  refine ⟨⟨by rw [hN 180 (by decide) (by decide), e6]; exact n1, by rw [hN 181 (by decide) (by decide), e7]; exact n2, by rw [hN 53 (by decide) (by decide), e8]; exact n3⟩, fun j x y => by rw [hN j x (by omega), p1 j x y]; exact m1 j x y, fun j x y => by rw [hN (50 + j) (by omega) (by omega), p2 j x y]; exact m2 j x y, fun j x y => ?_⟩
  rw [hN (5 + 2 * j) (by omega) (by omega), hN (6 + 2 * j) (by omega) (by omega), hN (35 + j) (by omega) (by omega), (p3 j x y).1, (p3 j x y).2, p5 j x y]
  exact m3 j x y
theorem MrR_eq {N N' : Int → Int} {σ τ : SG} {b c : Nat} (h : MrR N σ c) (e : SnEq τ b σ c) (hN : ∀ j, 0 ≤ j → j < 182 → N' j = N j) : MrR N' τ b := by
  obtain ⟨_, ⟨e9, e10, e11⟩, _, _, _, _, r1, r2, r3⟩ := e
  refine ⟨⟨by rw [hN 54 (by decide) (by decide), e9]; exact h.1.1, by rw [hN 55 (by decide) (by decide), e10]; exact h.1.2.1, by rw [hN 56 (by decide) (by decide), e11]; exact h.1.2.2⟩, fun u x y => ?_⟩
  have re : RlEq τ (rcN b u) σ (rcN c u) := by
    rcases (show u = 0 ∨ u = 1 ∨ u = 2 by omega) with rfl | rfl | rfl
    · exact r1
    · exact r2
    · exact r3
  obtain ⟨g1, g2, g3⟩ := h.2 u x y
  have hl := (ru_n g1).1
  refine ⟨RuI_eq g1 re, by rw [hN (57 + 41 * u) (by omega) (by omega), re.1.1]; exact g2, fun k p q => ?_⟩
  rw [re.1.1] at q
  rw [hN (57 + 41 * u + 1 + k) (by omega) (by omega), (re.2 k p (by omega)).1]
  exact g3 k p q
theorem SnEq_l {σ τ υ : SG} {b c : Nat} (h : SnEq τ b σ c) (e : ∀ k, b ≤ k → k < b + 16 → υ.1 k = τ.1 k) : SnEq υ b σ c := by
  unfold SnEq RlEq
  rw [e b (by omega) (by omega), e (b + 1) (by omega) (by omega), e (b + 2) (by omega) (by omega), e (b + 3) (by omega) (by omega), e (b + 4) (by omega) (by omega), e (b + 5) (by omega) (by omega), e (b + 7) (by omega) (by omega), e (b + 7 + 1) (by omega) (by omega), e (b + 7 + 2) (by omega) (by omega), e (b + 10) (by omega) (by omega), e (b + 10 + 1) (by omega) (by omega), e (b + 10 + 2) (by omega) (by omega), e (b + 13) (by omega) (by omega), e (b + 13 + 1) (by omega) (by omega), e (b + 13 + 2) (by omega) (by omega)]
  exact h
theorem RlEq_rf (σ : SG) (r : Nat) : RlEq σ r σ r := ⟨⟨rfl, rfl, rfl⟩, fun _ _ _ => ⟨rfl, rfl⟩⟩
theorem SnEq_rf (σ : SG) (b : Nat) : SnEq σ b σ b := ⟨⟨rfl, rfl, rfl⟩, ⟨rfl, rfl, rfl⟩, fun _ _ _ => rfl, fun _ _ _ => rfl, fun _ _ _ => ⟨rfl, rfl⟩, fun _ _ _ => rfl, RlEq_rf σ _, RlEq_rf σ _, RlEq_rf σ _⟩
theorem p_from {X : AX} {σ : SG} (h : INV σ) (k : Int) (hk : rg k) : Ev X 0 0 9 mX10_from 0 [some (rv 0), some (iv k)] [] σ (QI (fun r σ1 => Ev X 0 0 9 mX11_from 0 [some (rv 88), some (iv k), none] [] σ1 (QI (fun r' σ2 => r' = r ∧ INV σ2)))) := by
  have hI := h.2.2.2
  have h34 : ∀ j, 0 ≤ j → j < 2 → σ.1 34 j = 0 ∨ σ.1 34 j = 1 := fun j a b => (hI j a b).1
  have h91 : ∀ j, 0 ≤ j → j < 2 → σ.1 91 j = 0 ∨ σ.1 91 j = 1 := fun j a b => by rw [(hI j a b).2.1]; exact (hI j a b).1
  refine Ev.imp (s_from h34 k hk) ?_
  rintro v σ1 ⟨r, rfl, hr⟩
  by_cases h1 : 0 ≤ k ∧ k ≤ 1
  · rw [if_pos h1] at hr
    obtain ⟨i1, i2, i3⟩ := hI k h1.1 (by omega)
    by_cases h2 : σ.1 34 k = 0
    · rw [if_pos h2] at hr
      obtain ⟨hr, hs⟩ := hr
      rw [hs]
      refine ⟨r, rfl, Ev.imp (s_m_from h91 k hk) ?_⟩
      rintro v2 σ2 ⟨r', rfl, hr'⟩
      rw [if_pos h1, if_pos (by omega)] at hr'
      exact ⟨r', rfl, by omega, by rw [hr'.2]; exact h⟩
    · rw [if_neg h2] at hr
      obtain ⟨hr, hS, hF1⟩ := hr
      have e91 := (hF1 91 (by decide)).1
      have e90 := (hF1 90 (by decide)).1
      refine ⟨r, rfl, Ev.imp (s_m_from (by rw [e91]; exact h91) k hk) ?_⟩
      rintro v2 σ2 ⟨r', rfl, hr'⟩
      rw [e90, e91, if_pos h1, if_neg (by omega)] at hr'
      obtain ⟨hr', hN, hF⟩ := hr'
      obtain ⟨j1, j2, j3, j4⟩ := i3 h2
      have hS2 : SnEq σ2 1 σ (imN k) := SnEq_l hS (fun k a b => (hF k (by simp only [List.mem_cons, List.not_mem_nil, or_false]; omega)).1)
      refine ⟨r', rfl, by omega, mk_inv h (ScOK_eq j1 hS2) (ScX_eq j2 hS2) (MrP_eq j3 hS2 hN) (MrR_eq j4 hS2 hN) (fun k a => ?_) ?_⟩
      · rw [(hF k (by simp only [List.mem_cons, List.not_mem_nil, or_false]; omega)).1, (hF1 k (by simp only [List.mem_cons, List.not_mem_nil, or_false]; omega)).1]
      · rw [(hF 96 (by decide)).2, (hF1 96 (by decide)).2]
  · rw [if_neg h1] at hr
    obtain ⟨hr, hs⟩ := hr
    rw [hs]
    refine ⟨r, rfl, Ev.imp (s_m_from h91 k hk) ?_⟩
    rintro v2 σ2 ⟨r', rfl, hr'⟩
    rw [if_neg h1] at hr'
    exact ⟨r', rfl, by omega, by rw [hr'.2]; exact h⟩
theorem im_inv {σ τ : SG} (h : INV σ) (k : Int) (hk : 0 ≤ k ∧ k ≤ 1) (hS : SnEq τ (imN k) σ 1) (h34 : τ.1 34 = updA (σ.1 34) k 1) (h91 : τ.1 91 = updA (σ.1 91) k 1) (hN : ∀ j, 0 ≤ j → j < 182 → τ.1 90 (182 * k + j) = σ.1 89 j) (hN' : ∀ j, ¬ (182 * k ≤ j ∧ j < 182 * k + 182) → τ.1 90 j = σ.1 90 j) (ho : ∀ j, ¬ (imN k ≤ j ∧ j < imN k + 16) → ¬ j = 34 → ¬ j = 90 → ¬ j = 91 → τ.1 j = σ.1 j) (h96 : τ.2 96 = σ.2 96) : INV τ := by
  have q := imN_rg hk.1 (show k < 2 by omega)
  have e88 := ho 88 (by omega) (by decide) (by decide) (by decide)
  have e89 := ho 89 (by omega) (by decide) (by decide) (by decide)
  have e100 := ho 100 (by omega) (by decide) (by decide) (by decide)
  refine ⟨MdI_sc (h.1.fr e89 e100 ⟨by rw [e88], by rw [e88], by rw [e88]⟩ (RtI.fr h.1.2.2.2.2.2.2.1 h96)) (fun j a b => ho j (by omega) (by omega) (by omega) (by omega)), by rw [e88]; exact h.2.1, Bare_cg h.2.2.1 (fun j a b => ho j (by omega) (by omega) (by omega) (by omega)), fun m a b => ?_⟩
  by_cases e : m = k
  · rw [e]
    unfold ImK
    rw [h34, h91, updA_at, updA_at]
    exact ⟨Or.inr rfl, rfl, fun _ => ⟨ScOK_eq h.1.1 hS, ScX_eq h.1.2.1 hS, MrP_eq h.1.2.2.1 hS hN, MrR_eq h.R hS hN⟩⟩
  · obtain ⟨i1, i2, i3⟩ := h.2.2.2 m a b
    have qm := imN_rg a b
    have dj : ¬ imN m = imN k := by
      unfold imN
      rcases (show k = 0 ∨ k = 1 by omega) with rfl | rfl
      · rw [if_neg e, if_pos rfl]; decide
      · rw [if_pos (by omega), if_neg (by decide)]; decide
    have hm : SnEq τ (imN m) σ (imN m) := SnEq_l (SnEq_rf σ (imN m)) (fun j a b => ho j (by omega) (by omega) (by omega) (by omega))
    have nm : ∀ j, 0 ≤ j → j < 182 → kN τ m j = kN σ m j := fun j a b => hN' (182 * m + j) (by omega)
    unfold ImK
    rw [h34, h91, updA_ne e, updA_ne e]
    refine ⟨i1, i2, fun z => ?_⟩
    obtain ⟨j1, j2, j3, j4⟩ := i3 z
    exact ⟨ScOK_eq j1 hm, ScX_eq j2 hm, MrP_eq j3 hm nm, MrR_eq j4 hm nm⟩
theorem p_image {X : AX} {σ : SG} (h : INV σ) (k : Int) (hk : rg k) : Ev X 0 0 9 mX10_image 0 [some (rv 0), some (iv k)] [] σ (QI (fun r σ1 => Ev X 0 0 9 mX11_image 0 [some (rv 88), some (iv k), none] [] σ1 (QI (fun r' σ2 => r' = r ∧ INV σ2)))) := by
  refine Ev.imp (s_image k hk) ?_
  rintro v σ1 ⟨r, rfl, hr⟩
  by_cases h1 : 0 ≤ k ∧ k ≤ 1
  · rw [if_pos h1] at hr
    obtain ⟨hr, hS, s34, hF1⟩ := hr
    have c1 : ∀ j, ¬ (imN k ≤ j ∧ j < imN k + 16) → ¬ j = 34 → σ1.1 j = σ.1 j ∧ σ1.2 j = σ.2 j := by
      intro j a b
      refine hF1 j ?_
      unfold imN at a
      rcases (show k = 0 ∨ k = 1 by omega) with rfl | rfl
      · rw [if_pos rfl] at a ⊢
        simp only [List.mem_append, List.mem_cons, List.not_mem_nil, or_false]; omega
      · rw [if_neg (by decide)] at a ⊢
        simp only [List.mem_append, List.mem_cons, List.not_mem_nil, or_false]; omega
    have q := imN_rg h1.1 (show k < 2 by omega)
    have e89 := (c1 89 (by omega) (by decide)).1
    have e90 := (c1 90 (by omega) (by decide)).1
    have e91 := (c1 91 (by omega) (by decide)).1
    refine ⟨r, rfl, Ev.imp (s_m_image k hk) ?_⟩
    rintro v2 σ2 ⟨r', rfl, hr'⟩
    rw [e89, e90, e91, if_pos h1] at hr'
    obtain ⟨hr', ⟨hN, hN', hF⟩, h91⟩ := hr'
    refine ⟨r', rfl, by omega, im_inv h k h1 (SnEq_l hS (fun j a b => (hF j (by simp only [List.mem_cons, List.not_mem_nil, or_false]; omega)).1)) ?_ h91 hN hN' (fun j a b c d => ?_) ?_⟩
    · rw [(hF 34 (by decide)).1, s34, upI_fn]
    · rw [(hF j (by simp only [List.mem_cons, List.not_mem_nil, or_false]; omega)).1, (c1 j a b).1]
    · rw [(hF 96 (by decide)).2, (c1 96 (by omega) (by decide)).2]
  · rw [if_neg h1] at hr
    obtain ⟨hr, hs⟩ := hr
    rw [hs]
    refine ⟨r, rfl, Ev.imp (s_m_image k hk) ?_⟩
    rintro v2 σ2 ⟨r', rfl, hr'⟩
    rw [if_neg h1] at hr'
    exact ⟨r', rfl, by omega, by rw [hr'.2]; exact h⟩
set_option maxHeartbeats 4000000 in
set_option maxRecDepth 100000 in
theorem s_anyway2 {X : AX} {d : Nat} {σ : SG} {Good : SG → Prop} (ho : ScOK σ 1) (hGd : GdI Good 17 (σ.1 1 6)) (hgood : ∀ τ, PeI τ 17 σ 1 → Fr [17, 18, 19, 20, 21, 22] σ τ → Good τ) (k : Int) (hk : rg k) : Ev X 0 0 (d + 6) mX10_anyway 0 [some (rv 0), some (iv k), none] [] σ (QI (fun r σ' => if 0 ≤ k ∧ k ≤ 1 then ((∃ τ1, PeI τ1 17 σ 1 ∧ Fr [17, 18, 19, 20, 21, 22] σ τ1 ∧ r = (if k = 0 then smI (fun g => gv ((trS τ1 17 (τ1.2 48)).1.1 22) g) (σ.1 1 6) else smI (fun g => gv (σ.1 6) g) (σ.1 1 6) - smI (fun g => gv ((trS τ1 17 (τ1.2 48)).1.1 22) g) (σ.1 1 6)) ∧ σ'.1 17 = τ1.1 17) ∧ Fr [37, 38, 39, 40, 41, 42, 43, 44, 45, 46, 48, 17, 18, 19, 20, 21, 22] σ σ') else (r = -1000 ∧ σ' = σ))) := by
  obtain ⟨hk1, hk2⟩ := hk
  refine e_iload_n (pc' := 1) dX10_anyway_0 rfl rfl ?_
  refine e_iconst (pc' := 2) dX10_anyway_1 rfl ?_
  refine e_cs2i (pc' := 5) dX10_anyway_2 rfl pn_10_89 k_10_89 (Nat.le_of_ble_eq_true rfl) rfl rfl ⟨rfl, rfl⟩ ⟨Nat.zero_le _, Nat.zero_le _⟩ (s_isWithin k 1 ⟨by omega, by omega⟩ ⟨by omega, by omega⟩) ?_
  intro r σ' hr; rw [hr.1, hr.2]; clear hr
  refine e_ifI (pc' := 8) (t := 12) dX10_anyway_5 (by decide) rfl ⟨by first | omega | (split <;> omega), by first | omega | (split <;> omega)⟩ (fun (c2_1 : ((if 0 ≤ k ∧ k ≤ 1 then 1 else 0) : Int) ≠ 0) => ?_) (fun (c2_1 : ¬ (((if 0 ≤ k ∧ k ≤ 1 then 1 else 0) : Int) ≠ 0)) => ?_)
  · have c2_1n : 0 ≤ k ∧ k ≤ 1 := Classical.byContradiction (fun q => absurd (if_neg q : (if 0 ≤ k ∧ k ≤ 1 then (1 : Int) else 0) = 0) (by have := c2_1; omega))
    refine e_aload_n (pc' := 13) dX10_anyway_12 rfl rfl ?_
    refine e_getR (pc' := 16) dX10_anyway_13 rfl f_10_16 h_0 rfl ?_
    refine e_aload_n (pc' := 17) dX10_anyway_16 rfl rfl ?_
    refine e_getR (pc' := 20) dX10_anyway_17 rfl f_10_10 h_0 rfl ?_
    refine e_cv1v (pc' := 23) dX10_anyway_20 rfl k_10_223 h_17 rfl (Nat.le_of_ble_eq_true rfl) rfl rfl ⟨rfl, rfl⟩ ⟨Nat.zero_le _, Nat.zero_le _⟩ s_takePeople_17_1 ?_
    rintro τ1 ⟨hP1, hG1⟩
    have hg1 := hgood τ1 hP1 hG1
    have e6 : τ1.1 17 6 = σ.1 1 6 := hP1.1.1
    refine e_aload_n (pc' := 24) dX10_anyway_23 rfl rfl ?_
    refine e_getR (pc' := 27) dX10_anyway_24 rfl f_10_64 h_0 rfl ?_
    refine e_aload_n (pc' := 28) dX10_anyway_27 rfl rfl ?_
    refine e_getR (pc' := 31) dX10_anyway_28 rfl f_10_16 h_0 rfl ?_
    refine e_cv1i (pc' := 34) dX10_anyway_31 rfl k_10_205 h_47 rfl (Nat.le_of_ble_eq_true rfl) rfl rfl ⟨rfl, rfl⟩ ⟨Nat.zero_le _, Nat.zero_le _⟩ (s_run_17 (by rw [e6]; exact hGd) hg1) ?_
    rintro z τ2 ⟨hz, hS2, hG2⟩
    have hF2 : Fr [37, 38, 39, 40, 41, 42, 43, 44, 45, 46, 48, 17, 18, 19, 20, 21, 22] σ τ2 := (hG1.mono (by decide)).tr (hG2.mono (by decide))
    have e62 : τ2.1 17 6 = σ.1 1 6 := (congrFun (hG2 17 (by decide)).1 6).trans e6
    refine e_pop (pc' := 35) dX10_anyway_34 rfl rfl ?_
    refine e_aload_n (pc' := 36) dX10_anyway_35 rfl rfl ?_
    refine e_getR (pc' := 39) dX10_anyway_36 rfl f_10_16 h_0 rfl ?_
    refine e_cv0i (pc' := 42) dX10_anyway_39 rfl k_10_226 h_17 rfl (Nat.le_of_ble_eq_true rfl) rfl rfl ⟨rfl, rfl⟩ ⟨Nat.zero_le _, Nat.zero_le _⟩ (s_givenInAll_17 (by rw [e62]; exact ho.1)) ?_
    intro r σ' hr; rw [hr.1, hr.2]; clear hr σ'
    rw [e62, hS2 22 (by decide) (by decide)]
    refine e_istore_n (pc' := 43) (L' := [some (rv 0), some (iv k), some (iv (smI (fun g => gv ((trS τ1 17 (τ1.2 48)).1.1 22) g) (σ.1 1 6)))]) dX10_anyway_42 rfl (by decide) rfl ?_
    refine e_iload_n (pc' := 44) dX10_anyway_43 rfl rfl ?_
    refine e_ifI (pc' := 47) (t := 51) dX10_anyway_44 (by decide) rfl ⟨by first | omega | (split <;> omega), by first | omega | (split <;> omega)⟩ (fun (c4_2 : (k : Int) ≠ 0) => ?_) (fun (c4_2 : ¬ ((k : Int) ≠ 0)) => ?_)
    · refine e_aload_n (pc' := 52) dX10_anyway_51 rfl rfl ?_
      refine e_getR (pc' := 55) dX10_anyway_52 rfl f_10_10 h_0 rfl ?_
      refine e_cv0i (pc' := 58) dX10_anyway_55 rfl k_10_226 h_1 rfl (Nat.le_of_ble_eq_true rfl) rfl rfl ⟨rfl, rfl⟩ ⟨Nat.zero_le _, Nat.zero_le _⟩ (s_givenInAll_1 (by rw [(hF2 1 (by decide)).1]; exact ho.1)) ?_
      intro r σ' hr; rw [hr.1, hr.2]; clear hr σ'
      rw [(hF2 1 (by decide)).1, (hF2 6 (by decide)).1]
      refine e_iload_n (pc' := 59) dX10_anyway_58 rfl rfl ?_
      refine e_isub (pc' := 60) dX10_anyway_59 rfl ?_
      exact e_iret dX10_anyway_60 rfl ⟨rfl, Nat.le_refl _⟩ ⟨_, rfl, by dsimp only; rw [if_pos (by omega)]; exact ⟨⟨τ1, hP1, hG1, (by first | rw [if_pos (by omega)] | rw [if_neg (by omega)]), (hG2 17 (by decide)).1⟩, hF2⟩⟩
    · refine e_iload_n (pc' := 48) dX10_anyway_47 rfl rfl ?_
      refine e_goto (pc' := 60) dX10_anyway_48 (by decide) ?_
      exact e_iret dX10_anyway_60 rfl ⟨rfl, Nat.le_refl _⟩ ⟨_, rfl, by dsimp only; rw [if_pos (by omega)]; exact ⟨⟨τ1, hP1, hG1, (by first | rw [if_pos (by omega)] | rw [if_neg (by omega)]), (hG2 17 (by decide)).1⟩, hF2⟩⟩
  · have c2_1n : ¬ (0 ≤ k ∧ k ≤ 1) := fun q => absurd (if_pos q : (if 0 ≤ k ∧ k ≤ 1 then (1 : Int) else 0) = 1) (by have := c2_1; omega)
    refine e_sipush (pc' := 11) (z := (-1000)) dX10_anyway_8 rfl (by decide) ?_
    exact e_iret dX10_anyway_11 rfl ⟨rfl, Nat.le_refl _⟩ ⟨_, rfl, by dsimp only; rw [if_neg (by omega)]; exact ⟨rfl, rfl⟩⟩
theorem pe_ok {σ π : SG} (h : INV σ) (hP : PeI π 17 σ 1) (hF : Fr [17, 18, 19, 20, 21, 22] σ π) : ScOK π 17 ∧ ScX π 17 ∧ MrP (z15 (σ.1 89)) π 17 ∧ ∀ t, tlR π 17 t = 0 := by
  obtain ⟨⟨e6, e7, e8⟩, ⟨e9, e10, e11⟩, p1, p2, p3, p5⟩ := hP
  obtain ⟨b9, b10, b11, bf, r1, r2, r3⟩ := h.2.2.1
  obtain ⟨a1, a2, a3, a4, a5, a6, a7, a8, a9, a10, a11, _⟩ := h.1.1
  obtain ⟨⟨n1, n2, n3⟩, m1, m2, m3⟩ := h.1.2.2.1
  have g : ∀ k, 24 ≤ k → k < 33 → π.1 k = σ.1 k := fun k a b => (hF k (by simp only [List.mem_cons, List.not_mem_nil, or_false]; omega)).1
  have z0 : ∀ j, ¬ (35 ≤ j ∧ j < 50) → z15 (σ.1 89) j = σ.1 89 j := fun j q => if_neg q
  have z1 : ∀ j, 35 ≤ j ∧ j < 50 → z15 (σ.1 89) j = 0 := fun j q => if_pos q
  refine ⟨⟨by rw [e6]; exact a1, by rw [e7]; exact a2, by rw [e8]; exact a3, by rw [e9, b9]; decide, by rw [e10]; exact b10, by rw [e11]; exact b11, fun j x y => by rw [p5 j x y]; decide, fun j x y => by rw [p2 j x y]; exact a8 j x y, fun j x y => by rw [(p3 j x y).1]; exact a9 j x y, fun j x y => by rw [(p3 j x y).2]; exact a10 j x y, fun j x y => by rw [p1 j x y]; exact a11 j x y, RlOK_cg r1 (g 24 (by decide) (by decide)) (g 26 (by decide) (by decide)), RlOK_cg r2 (g 27 (by decide) (by decide)) (g 29 (by decide) (by decide)), RlOK_cg r3 (g 30 (by decide) (by decide)) (g 32 (by decide) (by decide))⟩, ⟨fun g w q1 q2 q3 q4 _ => p5 (g * 3 + w) (by omega) (by omega), fun g w q1 q2 q3 q4 q5 => ?_, fun g q1 q2 => ?_⟩, ⟨⟨?_, ?_, ?_⟩, fun j x y => ?_, fun j x y => ?_, fun j x y => ?_⟩, fun t => ?_⟩
  · rw [e7] at q5
    rw [(p3 (g * 3 + w) (by omega) (by omega)).1, (p3 (g * 3 + w) (by omega) (by omega)).2]
    exact h.1.2.1.2.1 g w q1 q2 q3 q4 q5
  · unfold gv
    rw [p5 (g * 3 + 0) (by omega) (by omega), p5 (g * 3 + 1) (by omega) (by omega), p5 (g * 3 + 2) (by omega) (by omega), p1 g q1 q2]
    exact (a11 g q1 q2).1
  · rw [z0 180 (by decide), e6]; exact n1
  · rw [z0 181 (by decide), e7]; exact n2
  · rw [z0 53 (by decide), e8]; exact n3
  · rw [z0 j (by omega), p1 j x y]; exact m1 j x y
  · rw [z0 (50 + j) (by omega), p2 j x y]; exact m2 j x y
  · rw [z0 (5 + 2 * j) (by omega), z0 (6 + 2 * j) (by omega), z1 (35 + j) (by omega), (p3 j x y).1, (p3 j x y).2, p5 j x y]
    exact ⟨(m3 j x y).1, (m3 j x y).2.1, rfl⟩
  · unfold tlR
    rw [e9, b9]
    have q : π.1 (rcN 17 0) 4 = 1 := by show π.1 24 4 = 1; rw [g 24 (by decide) (by decide)]; exact bf
    unfold tlS
    rw [q, if_neg (by decide)]
/-- the people of a scene with no gifts -/
def pe0 (σ : SG) : SG := (fun k j => if k = 17 then (if j < 9 then σ.1 1 j else σ.1 17 j) else if k = 22 then 0 else if k = 18 then σ.1 2 j else if k = 19 then σ.1 3 j else if k = 20 then σ.1 4 j else if k = 21 then σ.1 5 j else σ.1 k j, σ.2)
theorem pe0_ok (σ : SG) : PeI (pe0 σ) 17 σ 1 ∧ Fr [17, 18, 19, 20, 21, 22] σ (pe0 σ) := by
  refine ⟨⟨⟨rfl, rfl, rfl⟩, ⟨rfl, rfl, rfl⟩, fun _ _ _ => rfl, fun _ _ _ => rfl, fun _ _ _ => ⟨rfl, rfl⟩, fun _ _ _ => rfl⟩, fun k q => ⟨?_, rfl⟩⟩
  simp only [List.mem_cons, List.not_mem_nil, or_false, not_or] at q
  funext j
  unfold pe0
  dsimp only
  rw [if_neg q.1, if_neg q.2.2.2.2.2, if_neg q.2.1, if_neg q.2.2.1, if_neg q.2.2.2.1, if_neg q.2.2.2.2.1]
theorem p_anyway {X : AX} {σ : SG} (h : INV σ) (k : Int) (hk : rg k) : Ev X 0 0 9 mX10_anyway 0 [some (rv 0), some (iv k), none] [] σ (QI (fun r σ1 => Ev X 0 0 9 mX11_anyway 0 [some (rv 88), some (iv k), none, none, none, none] [] σ1 (QI (fun r' σ2 => r' = r ∧ INV σ2)))) := by
  refine Ev.imp (s_anyway2 h.1.1 (Gd_ok 17 (σ.1 1 6)) (fun τ p f => ⟨(pe_ok h p f).1, (pe_ok h p f).2.1, p.1.1⟩) k hk) ?_
  rintro v σ1 ⟨r, rfl, hr⟩
  by_cases h1 : 0 ≤ k ∧ k ≤ 1
  · rw [if_pos h1] at hr
    obtain ⟨⟨π, hP, hG, hr, h17⟩, hF1⟩ := hr
    have hM := md_cls h hF1 (by decide) (by decide) (by decide) (by decide)
    have e89 := (hF1 89 (by decide)).1
    obtain ⟨o1, o2, o3, o4⟩ := pe_ok h hP hG
    have tr := trS_ok (π.2 48) o1 o2
    refine ⟨r, rfl, Ev.imp (s_m_anyway (d := 0) hM.1 hM.2 π 17 o1 o2 (by rw [e89]; exact o3) o4 (π.2 48) (by rw [tr.2.2 17 (by decide)]) k hk) ?_⟩
    rintro v2 σ2 ⟨r', rfl, hr', hN, hF, hM2, h18⟩
    have eo : ∀ j, (1 ≤ j ∧ j < 17) ∨ (23 ≤ j ∧ j < 33) ∨ j = 34 ∨ (56 ≤ j ∧ j < 88) ∨ j = 90 ∨ j = 91 → σ2.1 j = σ.1 j := fun j a => (hF j (by simp only [List.mem_cons, List.not_mem_nil, or_false]; omega)).1.trans (hF1 j (by simp only [List.mem_cons, List.not_mem_nil, or_false]; omega)).1
    have e17 : σ2.1 17 = π.1 17 := (hF 17 (by decide)).1.trans h17
    obtain ⟨b9, b10, b11, bf, r1, r2, r3⟩ := h.2.2.1
    refine ⟨r', rfl, ?_, MdI_sc hM2 (fun j a b => eo j (by omega)), h18, ⟨?_, ?_, ?_, ?_, RlOK_cg r1 (eo 24 (by decide)) (eo 26 (by decide)), RlOK_cg r2 (eo 27 (by decide)) (eo 29 (by decide)), RlOK_cg r3 (eo 30 (by decide)) (eo 32 (by decide))⟩, Img_cg h.2.2.2 (eo 34 (by omega)) (eo 91 (by omega)) (eo 90 (by omega)) (fun j a b => eo j (by omega))⟩
    · rw [hr', if_pos h1, hr, hP.1.1]
    · rw [e17, hP.2.1.1]; exact b9
    · rw [e17, hP.2.1.2.1]; exact b10
    · rw [e17, hP.2.1.2.2]; exact b11
    · rw [eo 24 (by decide)]; exact bf
  · rw [if_neg h1] at hr
    obtain ⟨hr, hs⟩ := hr
    rw [hs]
    obtain ⟨o1, o2, o3, o4⟩ := pe_ok h (pe0_ok σ).1 (pe0_ok σ).2
    have tr := trS_ok ((pe0 σ).2 48) o1 o2
    refine ⟨r, rfl, Ev.imp (s_m_anyway (d := 0) h.1 h.2.1 (pe0 σ) 17 o1 o2 o3 o4 ((pe0 σ).2 48) (by rw [tr.2.2 17 (by decide)]) k hk) ?_⟩
    rintro v2 σ2 ⟨r', rfl, hr', hN, hF, hM2, h18⟩
    exact ⟨r', rfl, by rw [hr', if_neg h1, hr], INV_ro h hM2 h18 (fun j a => (hF j (by simp only [List.mem_cons, List.not_mem_nil, or_false]; unfold core at a; omega)).1)⟩
