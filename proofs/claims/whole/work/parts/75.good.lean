/-! what all together could have had: the first row with the most -/
theorem fbN_sp (f : Int → Int) : ∀ n : Nat, (∀ a : Int, 0 ≤ a → a ≤ (n : Int) → f a ≤ (fbN f n).2) ∧ ∀ a : Int, 0 ≤ a → a < (fbN f n).1 → f a < (fbN f n).2
  | 0 => ⟨fun a h1 h2 => by rw [show a = 0 by omega]; exact Int.le_refl _, fun a h1 h2 => absurd h2 (by show ¬ a < 0; omega)⟩
  | n + 1 => by
    have ih := fbN_sp f n
    have hin := fbN_in f n
    show (∀ a : Int, 0 ≤ a → a ≤ ((n + 1 : Nat) : Int) → f a ≤ (if (fbN f n).2 < f ((n + 1 : Nat) : Int) then (((n + 1 : Nat) : Int), f ((n + 1 : Nat) : Int)) else fbN f n).2) ∧ ∀ a : Int, 0 ≤ a → a < (if (fbN f n).2 < f ((n + 1 : Nat) : Int) then (((n + 1 : Nat) : Int), f ((n + 1 : Nat) : Int)) else fbN f n).1 → f a < (if (fbN f n).2 < f ((n + 1 : Nat) : Int) then (((n + 1 : Nat) : Int), f ((n + 1 : Nat) : Int)) else fbN f n).2
    by_cases h : (fbN f n).2 < f ((n + 1 : Nat) : Int)
    · rw [if_pos h]
      refine ⟨fun a h1 h2 => ?_, fun a h1 h2 => ?_⟩
      · show f a ≤ f ((n + 1 : Nat) : Int)
        by_cases e : a = ((n + 1 : Nat) : Int)
        · rw [e]; exact Int.le_refl _
        · have := ih.1 a h1 (by omega); omega
      · show f a < f ((n + 1 : Nat) : Int)
        have h3 : a < ((n + 1 : Nat) : Int) := h2
        have := ih.1 a h1 (by omega); omega
    · rw [if_neg h]
      refine ⟨fun a h1 h2 => ?_, ih.2⟩
      by_cases e : a = ((n + 1 : Nat) : Int)
      · rw [e]; omega
      · exact ih.1 a h1 (by omega)
theorem fbI_sp (f : Int → Int) {i : Int} (hi : 0 ≤ i) : (0 ≤ (fbI f i).1 ∧ (fbI f i).1 ≤ i ∧ (fbI f i).2 = f (fbI f i).1) ∧ (∀ a : Int, 0 ≤ a → a ≤ i → f a ≤ (fbI f i).2) ∧ ∀ a : Int, 0 ≤ a → a < (fbI f i).1 → f a < (fbI f i).2 := by
  have h1 := fbN_in f i.toNat
  have h2 := fbN_sp f i.toNat
  exact ⟨⟨h1.1, by have := h1.2.1; unfold fbI; omega, h1.2.2⟩, fun a p q => h2.1 a p (by omega), h2.2⟩
def gP (wk al a b c : Int) : Prop := (0 ≤ a ∧ a ≤ 60 ∧ (wk ≤ 0 → a = 0)) ∧ (0 ≤ b ∧ b ≤ 60 ∧ (wk ≤ 1 → b = 0)) ∧ (0 ≤ c ∧ c ≤ 60 ∧ (wk ≤ 2 → c = 0)) ∧ a + b + c ≤ al
def gV (ρ : SG) (co al a b c : Int) : Int := waS ρ 1 0 a + waS ρ 1 1 b + waS ρ 1 2 c + ρ.1 1 8 * min (al - a - b - c) co
def FL (V : Int → Int → Int → Int) (P : Int → Int → Int → Prop) (m x y z : Int) : Prop := P x y z ∧ m = V x y z ∧ (∀ a b c, P a b c → V a b c ≤ m) ∧ ∀ a b c, P a b c → DnS x y z a b c → V a b c < m
theorem FL_uni {V : Int → Int → Int → Int} {P : Int → Int → Int → Prop} {m x y z m' x' y' z' : Int} (h : FL V P m x y z) (h' : FL V P m' x' y' z') : m = m' ∧ x = x' ∧ y = y' ∧ z = z' := by
  obtain ⟨a1, a2, a3, a4⟩ := h
  obtain ⟨b1, b2, b3, b4⟩ := h'
  have e1 := a3 _ _ _ b1
  have e2 := b3 _ _ _ a1
  have e3 : ¬ DnS x y z x' y' z' := fun q => by have := a4 _ _ _ b1 q; omega
  have e4 : ¬ DnS x' y' z' x y z := fun q => by have := b4 _ _ _ a1 q; omega
  unfold DnS at e3 e4
  omega
theorem waS_rg {ρ : SG} (ho : ScOK ρ 1) {w a : Int} (hw : 0 ≤ w ∧ w < 3) (ha : 0 ≤ a) : 0 ≤ waS ρ 1 w a ∧ waS ρ 1 w a ≤ 60000 := by
  have hG := ho.1
  have := smI_5 (f := fun g => wcS (ρ.1 (1 + 2) w) (ρ.1 (1 + 3) (g * 3 + w)) (ρ.1 (1 + 4) (g * 3 + w)) a) (M := 12000) (by decide) ho.1 (fun g p q => wcS_rg (ho.2.2.2.2.2.2.2.2.1 (g * 3 + w) (by omega) (by omega)) (ho.2.2.2.2.2.2.2.2.2.1 (g * 3 + w) (by omega) (by omega)).1 ha)
  unfold waS
  omega
theorem waS_z {ρ : SG} (hG : 0 ≤ ρ.1 1 6 ∧ ρ.1 1 6 ≤ 5) (hX : ScX ρ 1) {w : Int} (hw : 0 ≤ w ∧ w < 3) (hk : ρ.1 1 7 ≤ w) (a : Int) : waS ρ 1 w a = 0 := by
  unfold waS
  rw [smI_cg (g := fun _ => 0) (fun g p q => by
    have e := hX.2.1 g w p (by omega) hw.1 hw.2 hk
    show wcS _ _ _ a = 0
    rw [e.1, e.2]
    unfold wcS
    split <;> simp)]
  unfold smI
  generalize (ρ.1 1 6).toNat = n
  induction n with
  | zero => rfl
  | succ n ih => show sm (fun _ => 0) n + 0 = 0; rw [ih]; rfl
theorem GW_3 (ρ : SG) (co l : Int) : GW ρ co 3 l = ρ.1 1 8 * min l co := rfl
theorem GW3_rg {ρ : SG} (ho : ScOK ρ 1) {co l : Int} (hco : 0 ≤ co ∧ co ≤ 60) (hl : 0 ≤ l) : 0 ≤ GW ρ co 3 l ∧ GW ρ co 3 l ≤ 5940 := by
  have k := ho.2.2.1
  have m1 := Int.mul_nonneg k.1 (show 0 ≤ min l co by omega)
  have m2 := Int.mul_le_mul k.2 (show min l co ≤ 60 by omega) (show 0 ≤ min l co by omega) (by decide : (0 : Int) ≤ 99)
  rw [GW_3]
  omega
theorem GW_st {ρ : SG} {co w l : Int} (hw : 0 ≤ w ∧ w < 3) (hl : 0 ≤ l) : (0 ≤ gR ρ co w l ∧ gR ρ co w l ≤ min 60 l ∧ GW ρ co w l = waS ρ 1 w (gR ρ co w l) + GW ρ co (w + 1) (l - gR ρ co w l)) ∧ (∀ a : Int, 0 ≤ a → a ≤ min 60 l → waS ρ 1 w a + GW ρ co (w + 1) (l - a) ≤ GW ρ co w l) ∧ ∀ a : Int, 0 ≤ a → a < gR ρ co w l → waS ρ 1 w a + GW ρ co (w + 1) (l - a) < GW ρ co w l := by
  have h := fbI_sp (fun a => waS ρ 1 w a + GW ρ co (w + 1) (l - a)) (i := min 60 l) (by omega)
  rw [GW_s ρ co hw.1 hw.2 l]
  exact h
theorem GW_rg {ρ : SG} (ho : ScOK ρ 1) {co : Int} (hco : 0 ≤ co ∧ co ≤ 60) : ∀ (n : Nat) (w l : Int), w + n = 3 → 0 ≤ w → 0 ≤ l → 0 ≤ GW ρ co w l ∧ GW ρ co w l ≤ 5940 + 60000 * n
  | 0, w, l, h, h0, hl => by
    have := GW3_rg ho hco hl
    rw [show w = 3 by omega]
    omega
  | n + 1, w, l, h, h0, hl => by
    have st := GW_st (ρ := ρ) (co := co) (w := w) (l := l) ⟨h0, by omega⟩ hl
    have ih := GW_rg ho hco n (w + 1) (l - gR ρ co w l) (by omega) (by omega) (by omega)
    have wr := waS_rg ho (w := w) (a := gR ρ co w l) ⟨h0, by omega⟩ st.1.1
    rw [st.1.2.2]
    omega
theorem GwR_ok {ρ : SG} (ho : ScOK ρ 1) {co tot : Int} (hco : 0 ≤ co ∧ co ≤ 60) : GwR ρ co tot := by
  refine ⟨fun w a h0 h1 h2 h3 => ?_, fun w l h0 h1 h2 h3 => ?_⟩
  · have := waS_rg ho (w := w) (a := a) ⟨h0, h1⟩ h2
    omega
  · have := GW_rg ho hco (3 - w).toNat w l (by omega) h0 h2
    omega
theorem GW_z {ρ : SG} (ho : ScOK ρ 1) (hX : ScX ρ 1) {co : Int} (hco : 0 ≤ co ∧ co ≤ 60) : ∀ (n : Nat) (w : Int), w + n = 3 → 0 ≤ w → ρ.1 1 7 ≤ w → ∀ l : Int, 0 ≤ l → GW ρ co w l = GW ρ co 3 l ∧ (w < 3 → gR ρ co w l = 0)
  | 0, w, h, h0, hk, l, hl => ⟨by rw [show w = 3 by omega], fun q => by omega⟩
  | n + 1, w, h, h0, hk, l, hl => by
    have st := GW_st (ρ := ρ) (co := co) (w := w) (l := l) ⟨h0, by omega⟩ hl
    have ih := fun l hl => (GW_z ho hX hco n (w + 1) (by omega) (by omega) (by omega) l hl).1
    have mono : ∀ l' : Int, 0 ≤ l' → l' ≤ l → GW ρ co 3 l' ≤ GW ρ co 3 l := fun l' p q => by
      rw [GW_3, GW_3]
      exact Int.mul_le_mul_of_nonneg_left (by omega) ho.2.2.1.1
    have hz := waS_z ho.1 hX (w := w) ⟨h0, by omega⟩ hk
    have e1 := st.2.1 0 (by decide) (by omega)
    have e2 := st.1.2.2
    rw [hz, ih _ (by omega)] at e1 e2
    have m1 := mono (l - gR ρ co w l) (by omega) (by omega)
    rw [show l - 0 = l by omega] at e1
    have er : gR ρ co w l = 0 := by
      apply Classical.byContradiction
      intro q
      have e3 := st.2.2 0 (by decide) (by omega)
      rw [hz, ih _ (by omega), show l - 0 = l by omega] at e3
      omega
    exact ⟨by omega, fun _ => er⟩
theorem FL_cls {ρ : SG} (ho : ScOK ρ 1) (hX : ScX ρ 1) {co al : Int} (hco : 0 ≤ co ∧ co ≤ 60) (hal : 0 ≤ al) : FL (gV ρ co al) (gP (ρ.1 1 7) al) (GW ρ co 0 al) (gR ρ co 0 al) (gR ρ co 1 (al - gR ρ co 0 al)) (gR ρ co 2 (al - gR ρ co 0 al - gR ρ co 1 (al - gR ρ co 0 al))) := by
  have s0 := GW_st (ρ := ρ) (co := co) (w := 0) (l := al) (by decide) hal
  obtain ⟨x, hx⟩ : ∃ x, x = gR ρ co 0 al := ⟨_, rfl⟩
  rw [← hx] at s0 ⊢
  have s1 := GW_st (ρ := ρ) (co := co) (w := 1) (l := al - x) (by decide) (by omega)
  obtain ⟨y, hy⟩ : ∃ y, y = gR ρ co 1 (al - x) := ⟨_, rfl⟩
  rw [← hy] at s1 ⊢
  have s2 := GW_st (ρ := ρ) (co := co) (w := 2) (l := al - x - y) (by decide) (by omega)
  obtain ⟨z, hz⟩ : ∃ z, z = gR ρ co 2 (al - x - y) := ⟨_, rfl⟩
  rw [← hz] at s2 ⊢
  have t : ∀ w : Int, 0 ≤ w → w < 3 → ρ.1 1 7 ≤ w → ∀ l : Int, 0 ≤ l → gR ρ co w l = 0 := fun w a b c l hl => (GW_z ho hX hco (3 - w).toNat w (by omega) a c l hl).2 b
  have e3 : ∀ l : Int, GW ρ co (2 + 1) l = ρ.1 1 8 * min l co := fun l => rfl
  rw [show (0 : Int) + 1 = 1 from rfl] at s0
  rw [show (1 : Int) + 1 = 2 from rfl] at s1
  refine ⟨⟨⟨s0.1.1, by omega, fun q => by rw [hx]; exact t 0 (by decide) (by decide) q _ hal⟩, ⟨s1.1.1, by omega, fun q => by rw [hy]; exact t 1 (by decide) (by decide) q _ (by omega)⟩, ⟨s2.1.1, by omega, fun q => by rw [hz]; exact t 2 (by decide) (by decide) q _ (by omega)⟩, by omega⟩, ?_, ?_, ?_⟩
  · unfold gV
    have q2 := s2.1.2.2
    rw [e3] at q2
    have q1 := s1.1.2.2
    have q0 := s0.1.2.2
    omega
  · intro a b c hp
    obtain ⟨⟨a1, a2, a3⟩, ⟨b1, b2, b3⟩, ⟨c1, c2, c3⟩, hs⟩ := hp
    have r0 := s0.2.1 a a1 (by omega)
    have r1 := (GW_st (ρ := ρ) (co := co) (w := 1) (l := al - a) (by decide) (by omega)).2.1 b b1 (by omega)
    have r2 := (GW_st (ρ := ρ) (co := co) (w := 2) (l := al - a - b) (by decide) (by omega)).2.1 c c1 (by omega)
    rw [e3] at r2
    rw [show (1 : Int) + 1 = 2 from rfl] at r1
    unfold gV
    omega
  · intro a b c hp hd
    obtain ⟨⟨a1, a2, a3⟩, ⟨b1, b2, b3⟩, ⟨c1, c2, c3⟩, hs⟩ := hp
    have r1 := (GW_st (ρ := ρ) (co := co) (w := 1) (l := al - a) (by decide) (by omega)).2.1 b b1 (by omega)
    have r2 := (GW_st (ρ := ρ) (co := co) (w := 2) (l := al - a - b) (by decide) (by omega)).2.1 c c1 (by omega)
    rw [e3] at r2
    rw [show (1 : Int) + 1 = 2 from rfl] at r1
    unfold gV
    unfold DnS at hd
    rcases hd with h | ⟨h, h2⟩
    · have r0 := s0.2.2 a a1 h
      omega
    · subst h
      have q0 := s0.1.2.2
      rcases h2 with h | ⟨h, h3⟩
      · have r0 := s1.2.2 b b1 h
        omega
      · subst h
        have q1 := s1.1.2.2
        have r0 := s2.2.2 c c1 h3
        rw [e3] at r0
        omega
