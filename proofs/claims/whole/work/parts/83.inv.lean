/-! what holds between calls -/
def Bare (σ : SG) : Prop := σ.1 17 9 = 0 ∧ (0 ≤ σ.1 17 10 ∧ σ.1 17 10 ≤ 200) ∧ (0 ≤ σ.1 17 11 ∧ σ.1 17 11 ≤ 2) ∧ σ.1 24 4 = 1 ∧ RlOK σ 24 ∧ RlOK σ 27 ∧ RlOK σ 30
def kN (σ : SG) (k : Int) : Int → Int := fun j => σ.1 90 (182 * k + j)
def ImK (σ : SG) (k : Int) : Prop := (σ.1 34 k = 0 ∨ σ.1 34 k = 1) ∧ σ.1 91 k = σ.1 34 k ∧ (¬ σ.1 34 k = 0 → ScOK σ (imN k) ∧ ScX σ (imN k) ∧ MrP (kN σ k) σ (imN k) ∧ MrR (kN σ k) σ (imN k))
def Img (σ : SG) : Prop := ∀ k, 0 ≤ k → k < 2 → ImK σ k
def INV (σ : SG) : Prop := MdI σ σ 1 ∧ σ.1 88 18 = 0 ∧ Bare σ ∧ Img σ
theorem INV.R {σ : SG} (h : INV σ) : MrR (σ.1 89) σ 1 := by
  rcases h.1.2.2.2.1 with q | q
  · have := h.2.1; omega
  · exact q.2
theorem ScX_cg {σ τ : SG} {b : Nat} (h : ScX σ b) (e : SameSc σ τ b) : ScX τ b := by
  unfold ScX
  rw [e b (by omega) (by omega), e (b + 1) (by omega) (by omega), e (b + 3) (by omega) (by omega), e (b + 4) (by omega) (by omega), e (b + 5) (by omega) (by omega)]
  exact h
theorem MrP_sc {N : Int → Int} {σ τ : SG} {b : Nat} (h : MrP N σ b) (e : SameSc σ τ b) : MrP N τ b := by
  unfold MrP
  rw [e b (by omega) (by omega), e (b + 1) (by omega) (by omega), e (b + 2) (by omega) (by omega), e (b + 3) (by omega) (by omega), e (b + 4) (by omega) (by omega), e (b + 5) (by omega) (by omega)]
  exact h
theorem MrR_sc {N : Int → Int} {σ τ : SG} {b : Nat} (h : MrR N σ b) (e : SameSc σ τ b) : MrR N τ b := by
  refine ⟨by rw [e b (by omega) (by omega)]; exact h.1, fun u a c => ?_⟩
  have q : rcN b u = b + 7 + 3 * u.toNat := rfl
  obtain ⟨h1, h2, h3⟩ := h.2 u a c
  have e0 := e (rcN b u) (by omega) (by omega)
  have e1 := e (rcN b u + 1) (by omega) (by omega)
  have e2 := e (rcN b u + 2) (by omega) (by omega)
  rw [e0, e1]
  exact ⟨RuI_cg h1 e0 e1 e2, h2, h3⟩
theorem MdI_sc {σ ρ ρ' : SG} {b : Nat} (h : MdI σ ρ b) (e : SameSc ρ ρ' b) : MdI σ ρ' b := by
  obtain ⟨h1, h2, h3, h4, h5⟩ := h
  refine ⟨h1.cg e, ScX_cg h2 e, MrP_sc h3 e, ?_, h5⟩
  rcases h4 with ⟨a, c⟩ | ⟨a, c⟩
  · exact Or.inl ⟨a, fun t => by rw [tlR_cg h1 e]; exact c t⟩
  · exact Or.inr ⟨a, MrR_sc c e⟩
theorem RlOK_cg {σ τ : SG} {r : Nat} (h : RlOK σ r) (e0 : τ.1 r = σ.1 r) (e2 : τ.1 (r + 2) = σ.1 (r + 2)) : RlOK τ r := by
  unfold RlOK
  rw [e0, e2]
  exact h
theorem Bare_cg {σ τ : SG} (h : Bare σ) (e : ∀ k, 17 ≤ k → k < 33 → τ.1 k = σ.1 k) : Bare τ := by
  obtain ⟨h1, h2, h3, h4, h5, h6, h7⟩ := h
  refine ⟨?_, ?_, ?_, ?_, RlOK_cg h5 (e 24 (by decide) (by decide)) (e 26 (by decide) (by decide)), RlOK_cg h6 (e 27 (by decide) (by decide)) (e 29 (by decide) (by decide)), RlOK_cg h7 (e 30 (by decide) (by decide)) (e 32 (by decide) (by decide))⟩
  · rw [e 17 (by decide) (by decide)]; exact h1
  · rw [e 17 (by decide) (by decide)]; exact h2
  · rw [e 17 (by decide) (by decide)]; exact h3
  · rw [e 24 (by decide) (by decide)]; exact h4
theorem imN_rg {k : Int} (h0 : 0 ≤ k) (h1 : k < 2) : imN k = 56 ∨ imN k = 72 := by
  unfold imN
  split
  · exact Or.inl rfl
  · exact Or.inr rfl
theorem ImK_cg {σ τ : SG} {k : Int} (h : ImK σ k) (e34 : τ.1 34 k = σ.1 34 k) (e91 : τ.1 91 k = σ.1 91 k) (ek : kN τ k = kN σ k) (es : SameSc σ τ (imN k)) : ImK τ k := by
  unfold ImK
  rw [e34, e91, ek]
  refine ⟨h.1, h.2.1, fun q => ?_⟩
  obtain ⟨a, b, c, d⟩ := h.2.2 q
  exact ⟨a.cg es, ScX_cg b es, MrP_sc c es, MrR_sc d es⟩
theorem Img_cg {σ τ : SG} (h : Img σ) (e34 : τ.1 34 = σ.1 34) (e91 : τ.1 91 = σ.1 91) (e90 : τ.1 90 = σ.1 90) (es : ∀ k, 56 ≤ k → k < 88 → τ.1 k = σ.1 k) : Img τ := by
  intro k a c
  refine ImK_cg (h k a c) (by rw [e34]) (by rw [e91]) (by unfold kN; rw [e90]) (fun j p q => ?_)
  rcases imN_rg a c with r | r
  · exact es j (by omega) (by omega)
  · exact es j (by omega) (by omega)
def core (k : Nat) : Prop := (1 ≤ k ∧ k < 33) ∨ k = 34 ∨ (56 ≤ k ∧ k < 88) ∨ k = 90 ∨ k = 91
theorem INV_ro {σ τ : SG} (h : INV σ) (hM : MdI τ σ 1) (h18 : τ.1 88 18 = 0) (hc : ∀ k, core k → τ.1 k = σ.1 k) : INV τ := by
  refine ⟨MdI_sc hM (fun k a b => hc k (by unfold core; omega)), h18, Bare_cg h.2.2.1 (fun k a b => hc k (by unfold core; omega)), Img_cg h.2.2.2 (hc 34 (by unfold core; omega)) (hc 91 (by unfold core; omega)) (hc 90 (by unfold core; omega)) (fun k a b => hc k (by unfold core; omega))⟩
theorem fr_core {ks : List Nat} {σ τ : SG} (h : Fr ks σ τ) (hk : ∀ k, core k → k ∉ ks) : ∀ k, core k → τ.1 k = σ.1 k := fun k q => (h k (hk k q)).1
theorem md_cls {ks : List Nat} {σ σ1 : SG} (h : INV σ) (hF : Fr ks σ σ1) (h88 : 88 ∉ ks) (h89 : 89 ∉ ks) (h96 : 96 ∉ ks) (h100 : 100 ∉ ks) : MdI σ1 σ 1 ∧ σ1.1 88 18 = 0 := by
  have e := (hF 88 h88).1
  refine ⟨h.1.fr (hF 89 h89).1 (hF 100 h100).1 ?_ (RtI.fr h.1.2.2.2.2.2.2.1 (hF 96 h96).2), by rw [e]; exact h.2.1⟩
  unfold KA
  rw [e]
  exact ⟨rfl, rfl, rfl⟩
theorem ro_end {ks1 ks2 : List Nat} {σ σ1 σ2 : SG} (h : INV σ) (h1 : Fr ks1 σ σ1) (h2 : Fr ks2 σ1 σ2) (c1 : ∀ k, core k → k ∉ ks1) (c2 : ∀ k, core k → k ∉ ks2) (h18 : σ1.1 88 18 = 0) (hK : KA σ1 σ2) (hM : MdI σ2 σ 1) : INV σ2 := INV_ro h hM (hK.1.trans h18) (fun k q => (fr_core h2 c2 k q).trans (fr_core h1 c1 k q))
/-- a scene changed at both sides -/
theorem mk_inv {σ τ : SG} (h : INV σ) (ho : ScOK τ 1) (hX : ScX τ 1) (hP : MrP (τ.1 89) τ 1) (hR : MrR (τ.1 89) τ 1) (hc : ∀ k, (17 ≤ k ∧ k < 33) ∨ k = 34 ∨ (56 ≤ k ∧ k < 89) ∨ k = 90 ∨ k = 91 ∨ k = 100 → τ.1 k = σ.1 k) (h96 : τ.2 96 = σ.2 96) : INV τ := by
  have e88 := hc 88 (by omega)
  have e100 := hc 100 (by omega)
  refine ⟨⟨ho, hX, hP, Or.inr ⟨by rw [e88]; exact h.2.1, hR⟩, by rw [e88]; exact h.1.2.2.2.2.1, by rw [hR.1.2.1]; exact ho.2.2.2.2.1, RtI.fr h.1.2.2.2.2.2.2.1 h96, by rw [e100]; exact h.1.2.2.2.2.2.2.2⟩, by rw [e88]; exact h.2.1, Bare_cg h.2.2.1 (fun k a b => hc k (by omega)), Img_cg h.2.2.2 (hc 34 (by omega)) (hc 91 (by omega)) (hc 90 (by omega)) (fun k a b => hc k (by omega))⟩
/-- turns keep all but the gifts -/
theorem inS_ok (b : Nat) (G : Int) : ∀ (n : Nat) (ρ : SG) (i st : Int), ScOK ρ b → ScX ρ b → ρ.1 b 6 = G → 0 ≤ i → i + n ≤ G → ScOK (inS b G n ρ i st).1 b ∧ ScX (inS b G n ρ i st).1 b ∧ ∀ k, ¬ k = b + 5 → (inS b G n ρ i st).1.1 k = ρ.1 k
  | 0, ρ, i, st, h1, h2, _, _, _ => ⟨h1, h2, fun _ _ => rfl⟩
  | n + 1, ρ, i, st, h1, h2, h6, hi, hn => by
    have hG := h1.1
    have hb := be_ok h1 h2 (g := i) ⟨hi, by omega⟩
    have u1 : ScOK (gU ρ b i (beS ρ b i)) b := ScOK_gU h1 ⟨hi, by omega⟩ hb.2
    have u2 : ScX (gU ρ b i (beS ρ b i)) b := ScX_gU h2 ⟨hi, by omega⟩ hb.2
    have u3 : ∀ k, ¬ k = b + 5 → (gU ρ b i (beS ρ b i)).1 k = ρ.1 k := fun k q => gU_ne q
    unfold inS
    split
    · split
      · exact ⟨u1, u2, u3⟩
      · have ih := inS_ok b G n (gU ρ b i (beS ρ b i)) (i + 1) 0 u1 u2 (by rw [u3 b (by omega)]; exact h6) (by omega) (by omega)
        exact ⟨ih.1, ih.2.1, fun k q => (ih.2.2 k q).trans (u3 k q)⟩
    · split
      · exact ⟨h1, h2, fun _ _ => rfl⟩
      · exact inS_ok b G n ρ (i + 1) (st + 1) h1 h2 h6 (by omega) (by omega)
theorem ouS_ok (b : Nat) (G : Int) : ∀ (n : Nat) (ρ : SG) (st r : Int) (h : Int → Int64), ScOK ρ b → ScX ρ b → ρ.1 b 6 = G → ScOK (ouS b G n ρ st r h).1 b ∧ ScX (ouS b G n ρ st r h).1 b ∧ ∀ k, ¬ k = b + 5 → (ouS b G n ρ st r h).1.1 k = ρ.1 k
  | 0, ρ, _, _, _, h1, h2, _ => ⟨h1, h2, fun _ _ => rfl⟩
  | n + 1, ρ, st, r, h, h1, h2, h6 => by
    have hG := h1.1
    have q := inS_ok b G G.toNat ρ 0 st h1 h2 h6 (by decide) (by omega)
    rw [ouS_s]
    split
    · exact q
    · split
      · exact q
      · have ih := ouS_ok b G n (inS b G G.toNat ρ 0 st).1 (inS b G G.toNat ρ 0 st).2.1 (r + 1) (updA h r (pkS ((inS b G G.toNat ρ 0 st).1.1 (b + 5)) 15)) q.1 q.2.1 (by rw [q.2.2 b (by omega)]; exact h6)
        exact ⟨ih.1, ih.2.1, fun k p => (ih.2.2 k p).trans (q.2.2 k p)⟩
theorem trS_ok {ρ : SG} {b : Nat} (h : Int → Int64) (h1 : ScOK ρ b) (h2 : ScX ρ b) : ScOK (trS ρ b h).1 b ∧ ScX (trS ρ b h).1 b ∧ ∀ k, ¬ k = b + 5 → (trS ρ b h).1.1 k = ρ.1 k := ouS_ok b (ρ.1 b 6) 40 ρ 0 1 _ h1 h2 rfl
def GoodS (b : Nat) (G : Int) (ρ : SG) : Prop := ScOK ρ b ∧ ScX ρ b ∧ ρ.1 b 6 = G
theorem Gd_ok (b : Nat) (G : Int) : GdI (GoodS b G) b G := by
  refine ⟨fun ρ h => ⟨h.1, h.2.2, fun g a c => ?_⟩, fun ρ g h a c => ?_⟩
  · have e : 0 ≤ g ∧ g < ρ.1 b 6 := ⟨a, by rw [h.2.2]; exact c⟩
    have q := (be_ok h.1 h.2.1 e).1
    exact ⟨ch_ok h.1 h.2.1 e, q.1, q.2⟩
  · have e : 0 ≤ g ∧ g < ρ.1 b 6 := ⟨a, by rw [h.2.2]; exact c⟩
    have q := be_ok h.1 h.2.1 e
    have hG := h.1.1
    exact ⟨ScOK_gU h.1 ⟨a, by omega⟩ q.2, ScX_gU h.2.1 e q.2, by rw [gU_ne (by omega)]; exact h.2.2⟩
