/-! calls that change nothing, at both sides -/
theorem md_fr {ks : List Nat} {σ σ1 σ2 : SG} (hM : MdI σ1 σ 1) (hF : Fr ks σ1 σ2) (hK : KA σ1 σ2) (h89 : 89 ∉ ks) (h96 : 96 ∉ ks) (h100 : 100 ∉ ks) : MdI σ2 σ 1 := hM.fr (hF 89 h89).1 (hF 100 h100).1 hK (RtI.fr hM.2.2.2.2.2.2.1 (hF 96 h96).2)
theorem md_fr2 {ks : List Nat} {σ σ1 σ2 : SG} (hM : MdI σ1 σ 1) (hF : Fr ks σ1 σ2) (hK : KA σ1 σ2) (hR : RtI σ2) (h89 : 89 ∉ ks) (h100 : 100 ∉ ks) : MdI σ2 σ 1 := hM.fr (hF 89 h89).1 (hF 100 h100).1 hK hR
theorem hb_ok {σ : SG} (h : INV σ) : ∀ g, 0 ≤ g → g < σ.1 1 6 → 0 ≤ bfS σ 1 g ∧ bfS σ 1 g ≤ 1000000 := fun g a c => (ch_ok h.1.1 h.1.2.1 ⟨a, c⟩).2.2
theorem pt_ok {σ : SG} (h : INV σ) {g w x y z : Int} (hg : 0 ≤ g ∧ g < σ.1 1 6) : -1000000 ≤ ptM σ g w x y z ∧ ptM σ g w x y z ≤ 1000000 := by
  have a := wvP_rg h.1.1 h.1.2.1 (w := w) (x := x) (y := y) (z := z) hg
  have b := hb_ok h g hg.1 hg.2
  rw [wvP_pt] at a
  omega
theorem co_ok {σ : SG} (h : INV σ) : 0 ≤ smI (σ.1 2) (σ.1 1 6) ∧ smI (σ.1 2) (σ.1 1 6) ≤ 60 := by
  have hG := h.1.1.1
  have := smI_5 (f := σ.1 2) (M := 12) (by decide) hG (fun g a c => h.1.1.2.2.2.2.2.2.2.2.2.2.1 g a (by omega))
  omega

theorem p_amount {X : AX} {σ : SG} (h : INV σ) (w : Int) (k : Int) (hw : rg w) (hk : rg k) : Ev X 0 0 9 mX10_amount 0 [some (rv 0), some (iv w), some (iv k)] [] σ (QI (fun r σ1 => Ev X 0 0 9 mX11_amount 0 [some (rv 88), some (iv w), some (iv k)] [] σ1 (QI (fun r' σ2 => r' = r ∧ INV σ2)))) := by
  refine Ev.imp (s_amount h.1.1 w k hw hk) ?_
  rintro v σ1 ⟨r, rfl, hr, hF⟩
  have hM := md_cls h hF (by decide) (by decide) (by decide) (by decide)
  refine ⟨r, rfl, Ev.imp (s_m_amount hM.1 w k hw hk) ?_⟩
  rintro v2 σ2 ⟨r', rfl, hr', hF2, hK2, hM2⟩
  exact ⟨r', rfl, hr'.trans hr.symm, ro_end h hF hF2 (fun k q => by simp only [List.mem_cons, List.not_mem_nil, or_false]; unfold core at q; omega) (fun k q => by simp only [List.mem_cons, List.not_mem_nil, or_false]; unfold core at q; omega) hM.2 hK2 hM2⟩

theorem p_isShort {X : AX} {σ : SG} (h : INV σ) : Ev X 0 0 9 mX10_isShort 0 [some (rv 0)] [] σ (QI (fun r σ1 => Ev X 0 0 9 mX11_isShort 0 [some (rv 88), none, none] [] σ1 (QI (fun r' σ2 => r' = r ∧ INV σ2)))) := by
  refine Ev.imp (s_isShort h.1.1) ?_
  rintro v σ1 ⟨r, rfl, hr, hF⟩
  have hM := md_cls h hF (by decide) (by decide) (by decide) (by decide)
  refine ⟨r, rfl, Ev.imp (s_m_isShort hM.1 (MrR_cg h.R (hF 89 (by decide)).1)) ?_⟩
  rintro v2 σ2 ⟨r', rfl, hr', hF2, hK2, hM2⟩
  exact ⟨r', rfl, hr'.trans hr.symm, ro_end h hF hF2 (fun k q => by simp only [List.mem_cons, List.not_mem_nil, or_false]; unfold core at q; omega) (fun k q => by simp only [List.mem_cons, List.not_mem_nil, or_false]; unfold core at q; omega) hM.2 hK2 hM2⟩

theorem p_has {X : AX} {σ : SG} (h : INV σ) (g : Int) (hg : rg g) : Ev X 0 0 9 mX10_has 0 [some (rv 0), some (iv g)] [] σ (QI (fun r σ1 => Ev X 0 0 9 mX11_has 0 [some (rv 88), some (iv g)] [] σ1 (QI (fun r' σ2 => r' = r ∧ INV σ2)))) := by
  refine Ev.imp (s_has h.1.1 g hg) ?_
  rintro v σ1 ⟨r, rfl, hr, hF⟩
  have hM := md_cls h hF (by decide) (by decide) (by decide) (by decide)
  refine ⟨r, rfl, Ev.imp (s_m_has hM.1 g hg) ?_⟩
  rintro v2 σ2 ⟨r', rfl, hr', hF2, hK2, hM2⟩
  exact ⟨r', rfl, hr'.trans hr.symm, ro_end h hF hF2 (fun k q => by simp only [List.mem_cons, List.not_mem_nil, or_false]; unfold core at q; omega) (fun k q => by simp only [List.mem_cons, List.not_mem_nil, or_false]; unfold core at q; omega) hM.2 hK2 hM2⟩

theorem p_best {X : AX} {σ : SG} (h : INV σ) (g : Int) (k : Int) (hg : rg g) (hk : rg k) : Ev X 0 0 9 mX10_best 0 [some (rv 0), some (iv g), some (iv k)] [] σ (QI (fun r σ1 => Ev X 0 0 9 mX11_best 0 [some (rv 88), some (iv g), some (iv k), none] [] σ1 (QI (fun r' σ2 => r' = r ∧ INV σ2)))) := by
  refine Ev.imp (s_best h.1.1 (fun g a c => ch_ok h.1.1 h.1.2.1 ⟨a, c⟩) g k hg hk) ?_
  rintro v σ1 ⟨r, rfl, hr, hF⟩
  have hM := md_cls h hF (by decide) (by decide) (by decide) (by decide)
  refine ⟨r, rfl, Ev.imp (s_m_best hM.1 g k hg hk) ?_⟩
  rintro v2 σ2 ⟨r', rfl, hr', hN2, hF2, hK2, hM2⟩
  exact ⟨r', rfl, hr'.trans hr.symm, ro_end h hF hF2 (fun k q => by simp only [List.mem_cons, List.not_mem_nil, or_false]; unfold core at q; omega) (fun k q => by simp only [List.mem_cons, List.not_mem_nil, or_false]; unfold core at q; omega) hM.2 hK2 hM2⟩

theorem p_rest {X : AX} {σ : SG} (h : INV σ) (k : Int) (hk : rg k) : Ev X 0 0 9 mX10_rest 0 [some (rv 0), some (iv k), none, none] [] σ (QI (fun r σ1 => Ev X 0 0 9 mX11_rest 0 [some (rv 88), some (iv k), none, none] [] σ1 (QI (fun r' σ2 => r' = r ∧ INV σ2)))) := by
  refine Ev.imp (s_rest h.1.1 (fun g a c => ch_ok h.1.1 h.1.2.1 ⟨a, c⟩) (fun g a c => (be_ok h.1.1 h.1.2.1 ⟨a, c⟩).1) k hk) ?_
  rintro v σ1 ⟨r, rfl, hr, hF⟩
  have hM := md_cls h hF (by decide) (by decide) (by decide) (by decide)
  refine ⟨r, rfl, Ev.imp (s_m_rest hM.1 k hk) ?_⟩
  rintro v2 σ2 ⟨r', rfl, hr', hN2, hF2, hK2, hM2⟩
  exact ⟨r', rfl, hr'.trans hr.symm, ro_end h hF hF2 (fun k q => by simp only [List.mem_cons, List.not_mem_nil, or_false]; unfold core at q; omega) (fun k q => by simp only [List.mem_cons, List.not_mem_nil, or_false]; unfold core at q; omega) hM.2 hK2 hM2⟩

theorem p_good {X : AX} {σ : SG} (h : INV σ) (k : Int) (hk : rg k) : Ev X 0 0 9 mX10_good 0 [some (rv 0), some (iv k)] [] σ (QI (fun r σ1 => Ev X 0 0 9 mX11_good 0 [some (rv 88), some (iv k), none] [] σ1 (QI (fun r' σ2 => r' = r ∧ INV σ2)))) := by
  refine Ev.imp (s_good h.1.1 (smI (σ.1 2) (σ.1 1 6)) (smI (σ.1 2) (σ.1 1 6) + σ.1 1 10) rfl (by have := co_ok h; have := h.1.1.2.2.2.2.1; omega) (co_ok h) (GwR_ok h.1.1 (co_ok h)) k hk) ?_
  rintro v σ1 ⟨r, rfl, hr, hF⟩
  have hM := md_cls h hF (by decide) (by decide) (by decide) (by decide)
  refine ⟨r, rfl, Ev.imp (s_m_good hM.1 (MrR_cg h.R (hF 89 (by decide)).1) k hk) ?_⟩
  rintro v2 σ2 ⟨r', rfl, hr', hF2, hK2, hM2⟩
  exact ⟨r', rfl, hr'.trans hr.symm, ro_end h hF hF2 (fun k q => by simp only [List.mem_cons, List.not_mem_nil, or_false]; unfold core at q; omega) (fun k q => by simp only [List.mem_cons, List.not_mem_nil, or_false]; unfold core at q; omega) hM.2 hK2 hM2⟩

theorem p_lost {X : AX} {σ : SG} (h : INV σ) : Ev X 0 0 9 mX10_lost 0 [some (rv 0)] [] σ (QI (fun r σ1 => Ev X 0 0 9 mX11_lost 0 [some (rv 88)] [] σ1 (QI (fun r' σ2 => r' = r ∧ INV σ2)))) := by
  refine Ev.imp (s_lost h.1.1 (smI (σ.1 2) (σ.1 1 6)) (smI (σ.1 2) (σ.1 1 6) + σ.1 1 10) rfl (by have := co_ok h; have := h.1.1.2.2.2.2.1; omega) (co_ok h) (GwR_ok h.1.1 (co_ok h))) ?_
  rintro v σ1 ⟨r, rfl, hr, hF⟩
  have hM := md_cls h hF (by decide) (by decide) (by decide) (by decide)
  refine ⟨r, rfl, Ev.imp (s_m_lost hM.1 (MrR_cg h.R (hF 89 (by decide)).1)) ?_⟩
  rintro v2 σ2 ⟨r', rfl, hr', hF2, hK2, hM2⟩
  exact ⟨r', rfl, hr'.trans hr.symm, ro_end h hF hF2 (fun k q => by simp only [List.mem_cons, List.not_mem_nil, or_false]; unfold core at q; omega) (fun k q => by simp only [List.mem_cons, List.not_mem_nil, or_false]; unfold core at q; omega) hM.2 hK2 hM2⟩

theorem p_gain {X : AX} {σ : SG} (h : INV σ) (g : Int) (w : Int) (hg : rg g) (hw : rg w) : Ev X 0 0 9 mX10_gain 0 [some (rv 0), some (iv g), some (iv w)] [] σ (QI (fun r σ1 => Ev X 0 0 9 mX11_gain 0 [some (rv 88), some (iv g), some (iv w), none, none] [] σ1 (QI (fun r' σ2 => r' = r ∧ INV σ2)))) := by
  refine Ev.imp (s_gain h.1.1 g w hg hw (fun a _ x y z _ => pt_ok h a) (fun g a => hb_ok h g a.1 a.2)) ?_
  rintro v σ1 ⟨r, rfl, hr, hF⟩
  have hM := md_cls h hF (by decide) (by decide) (by decide) (by decide)
  refine ⟨r, rfl, Ev.imp (s_m_gain hM.1 (MrR_cg h.R (hF 89 (by decide)).1) hM.2 g w hg hw) ?_⟩
  rintro v2 σ2 ⟨r', rfl, hr', hF2, hK2, hM2⟩
  refine ⟨r', rfl, ?_, ro_end h hF hF2 (fun k q => by simp only [List.mem_cons, List.not_mem_nil, or_false]; unfold core at q; omega) (fun k q => by simp only [List.mem_cons, List.not_mem_nil, or_false]; unfold core at q; omega) hM.2 hK2 hM2⟩
  by_cases q : (0 ≤ g ∧ g < σ.1 1 6) ∧ (0 ≤ w ∧ w < σ.1 1 7)
  · rw [if_pos q] at hr hr'
    obtain ⟨m, hm, e⟩ := hr
    rw [hr' m hm, e]
  · rw [if_neg q] at hr hr'
    omega

theorem p_hand {X : AX} {σ : SG} (h : INV σ) (g : Int) (w : Int) (hg : rg g) (hw : rg w) : Ev X 0 0 9 mX10_hand 0 [some (rv 0), some (iv g), some (iv w), none] [] σ (QI (fun r σ1 => Ev X 0 0 9 mX11_hand 0 [some (rv 88), some (iv g), some (iv w), none, none, none] [] σ1 (QI (fun r' σ2 => r' = r ∧ INV σ2)))) := by
  refine Ev.imp (s_hand h.1.1 g w hg hw (fun a _ x y z _ => pt_ok h a) (fun g a => hb_ok h g a.1 a.2)) ?_
  rintro v σ1 ⟨r, rfl, hr, hF⟩
  have hM := md_cls h hF (by decide) (by decide) (by decide) (by decide)
  refine ⟨r, rfl, Ev.imp (s_m_hand hM.1 (MrR_cg h.R (hF 89 (by decide)).1) hM.2 g w hg hw) ?_⟩
  rintro v2 σ2 ⟨r', rfl, hr', hF2, hK2, hM2⟩
  refine ⟨r', rfl, ?_, ro_end h hF hF2 (fun k q => by simp only [List.mem_cons, List.not_mem_nil, or_false]; unfold core at q; omega) (fun k q => by simp only [List.mem_cons, List.not_mem_nil, or_false]; unfold core at q; omega) hM.2 hK2 hM2⟩
  by_cases q : (0 ≤ g ∧ g < σ.1 1 6) ∧ (0 ≤ w ∧ w < σ.1 1 7)
  · rw [if_pos q] at hr hr'
    obtain ⟨m, hm, e⟩ := hr
    rw [hr' m hm, e]
  · rw [if_neg q] at hr hr'
    omega

theorem p_breach {X : AX} {σ : SG} (h : INV σ) (u : Int) (l : Int) (t : Int) (hu : rg u) (hl : rg l) (ht : rg t) : Ev X 0 0 9 mX10_breach 0 [some (rv 0), some (iv u), some (iv l), some (iv t), none, none, none] [] σ (QI (fun r σ1 => Ev X 0 0 9 mX11_breach 0 [some (rv 88), some (iv u), some (iv l), some (iv t), none, none] [] σ1 (QI (fun r' σ2 => r' = r ∧ INV σ2)))) := by
  refine Ev.imp (s_breach h.1.1 u l t hu hl ht) ?_
  rintro v σ1 ⟨r, rfl, hr, hF⟩
  have hM := md_cls h hF (by decide) (by decide) (by decide) (by decide)
  refine ⟨r, rfl, Ev.imp (s_m_breach (ρ := σ) (b := 1) (MrR_cg h.R (hF 89 (by decide)).1) hM.1.2.2.2.2.2.2.1 u l t hu hl ht) ?_⟩
  rintro v2 σ2 ⟨r', rfl, hr', hR2, hF2, hK2⟩
  exact ⟨r', rfl, hr'.trans hr.symm, ro_end h hF hF2 (fun k q => by simp only [List.mem_cons, List.not_mem_nil, or_false]; unfold core at q; omega) (fun k q => by simp only [List.mem_cons, List.not_mem_nil, or_false]; unfold core at q; omega) hM.2 hK2 (md_fr2 hM.1 hF2 hK2 hR2 (by decide) (by decide))⟩

theorem p_fault {X : AX} {σ : SG} (h : INV σ) (u : Int) (hu : rg u) : Ev X 0 0 9 mX10_fault 0 [some (rv 0), some (iv u)] [] σ (QI (fun r σ1 => Ev X 0 0 9 mX11_fault 0 [some (rv 88), some (iv u), none] [] σ1 (QI (fun r' σ2 => r' = r ∧ INV σ2)))) := by
  refine Ev.imp (s_fault u hu) ?_
  rintro v σ1 ⟨r, rfl, hr, hs⟩
  subst hs
  refine ⟨r, rfl, Ev.imp (s_m_fault (ρ := σ1) (b := 1) h.R u hu) ?_⟩
  rintro v2 σ2 ⟨r', rfl, hr', hF2, hK2⟩
  exact ⟨r', rfl, hr'.trans hr.symm, ro_end (ks1 := []) h Fr.rf hF2 (fun k q => by simp) (fun k q => by simp only [List.mem_cons, List.not_mem_nil, or_false]; unfold core at q; omega) h.2.1 hK2 (md_fr h.1 hF2 hK2 (by decide) (by decide) (by decide))⟩

theorem p_count {X : AX} {σ : SG} (h : INV σ) (w : Int) (hw : rg w) : Ev X 0 0 9 mX10_count 0 [some (rv 0), some (iv w)] [] σ (QI (fun r σ1 => Ev X 0 0 9 mX11_count 0 [some (rv 88), some (iv w)] [] σ1 (QI (fun r' σ2 => r' = r ∧ INV σ2)))) := by
  refine Ev.imp (s_count h.1.1 w hw) ?_
  rintro v σ1 ⟨r, rfl, hr, hs⟩
  subst hs
  refine ⟨r, rfl, Ev.imp (s_m_count h.1 w hw) ?_⟩
  rintro v2 σ2 ⟨r', rfl, hs2, hr'⟩
  subst hs2
  refine ⟨r', rfl, ?_, h⟩
  by_cases h0 : w = 0
  · rw [if_pos h0] at hr hr'; exact hr'.trans hr.symm
  · rw [if_neg h0] at hr hr'
    by_cases h1 : w = 1
    · rw [if_pos h1] at hr hr'; exact hr'.trans hr.symm
    · rw [if_neg h1] at hr hr'
      by_cases h2 : w = 2
      · rw [if_pos h2] at hr hr'; exact hr'.trans hr.symm
      · rw [if_neg h2] at hr hr'
        by_cases h3 : w = 3
        · rw [if_pos h3] at hr hr'; exact hr'.trans hr.symm
        · rw [if_neg h3] at hr hr'; exact hr'.trans hr.symm

theorem ru_n {σ : SG} {r : Nat} (h : RuI σ r) : (0 ≤ σ.1 r 2 ∧ σ.1 r 2 ≤ 40) ∧ ∀ j, 0 ≤ j → j < 40 → chr7 (σ.1 (r + 1) j) := by
  obtain ⟨nn, h1, h2, h3, _⟩ := h
  exact ⟨by omega, h3⟩
theorem inv_ru {σ : SG} (h : INV σ) : RuI σ 8 ∧ RuI σ 11 ∧ RuI σ 14 := ⟨(h.R.2 0 (by decide) (by decide)).1, (h.R.2 1 (by decide) (by decide)).1, (h.R.2 2 (by decide) (by decide)).1⟩

theorem p_digest {X : AX} {σ : SG} (h : INV σ) : Ev X 0 0 9 mX10_digest 0 [some (rv 0), none, none, none] [] σ (QJ (fun r σ1 => Ev X 0 0 9 mX11_digest 0 [some (rv 88), none, none, none, none, none] [] σ1 (QJ (fun r' σ2 => r' = r ∧ INV σ2)))) := by
  have hu := inv_ru h
  refine Ev.imp (s_digest h.1.1 (ru_n hu.1).1 (ru_n hu.1).2 (ru_n hu.2.1).1 (ru_n hu.2.1).2 (ru_n hu.2.2).1 (ru_n hu.2.2).2 (hb_ok h)) ?_
  rintro v σ1 ⟨r, rfl, hr, hF⟩
  have hM := md_cls h hF (by decide) (by decide) (by decide) (by decide)
  refine ⟨r, rfl, Ev.imp (s_m_digest hM.1 (MrR_cg h.R (hF 89 (by decide)).1)) ?_⟩
  rintro v2 σ2 ⟨r', rfl, hr', hF2, hK2, hM2⟩
  exact ⟨r', rfl, hr'.trans hr.symm, ro_end h hF hF2 (fun k q => by simp only [List.mem_cons, List.not_mem_nil, or_false]; unfold core at q; omega) (fun k q => by simp only [List.mem_cons, List.not_mem_nil, or_false]; unfold core at q; omega) hM.2 hK2 hM2⟩
