/-! the reference: good, lost -/
def GdM (V : Int → Int → Int → Int) (P D : Int → Int → Int → Prop) (m x y z : Int) : Prop := (-1 ≤ m ∧ m ≤ 1000000) ∧ (∀ a b c, P a b c → D a b c → V a b c ≤ m) ∧ ((m = -1 ∧ ∀ a b c, P a b c → ¬ D a b c) ∨ (P x y z ∧ D x y z ∧ m = V x y z ∧ ∀ a b c, P a b c → D a b c → DnS x y z a b c → V a b c < m))
theorem GdM.cg {V : Int → Int → Int → Int} {P D D' : Int → Int → Int → Prop} {m x y z : Int} (h : GdM V P D m x y z) (e : ∀ a b c, P a b c → (D a b c ↔ D' a b c)) : GdM V P D' m x y z := by
  refine ⟨h.1, fun a b c p q => h.2.1 a b c p ((e a b c p).mpr q), ?_⟩
  rcases h.2.2 with ⟨h1, h2⟩ | ⟨h1, h2, h3, h4⟩
  · exact Or.inl ⟨h1, fun a b c p q => h2 a b c p ((e a b c p).mpr q)⟩
  · exact Or.inr ⟨h1, (e x y z h1).mp h2, h3, fun a b c p q r => h4 a b c p ((e a b c p).mpr q) r⟩
theorem GdM.skip {V : Int → Int → Int → Int} {P : Int → Int → Int → Prop} {a b c m x y z : Int} (h : GdM V P (DnS a b c) m x y z) (hv : V a b c ≤ m) (h0 : 0 ≤ V a b c) : GdM V P (DnS a b (c + 1)) m x y z := by
  have key : ∀ a' b' c', DnS a b (c + 1) a' b' c' → DnS a b c a' b' c' ∨ (a' = a ∧ b' = b ∧ c' = c) := fun a' b' c' q => by unfold DnS at *; omega
  refine ⟨h.1, fun a' b' c' p q => ?_, ?_⟩
  · rcases key _ _ _ q with q | ⟨rfl, rfl, rfl⟩
    · exact h.2.1 _ _ _ p q
    · exact hv
  · rcases h.2.2 with ⟨h1, h2⟩ | ⟨h1, h2, h3, h4⟩
    · omega
    · refine Or.inr ⟨h1, by unfold DnS at *; omega, h3, fun a' b' c' p q r => ?_⟩
      rcases key _ _ _ q with q | ⟨rfl, rfl, rfl⟩
      · exact h4 _ _ _ p q r
      · exact absurd r (by unfold DnS at *; omega)
theorem GdM.take {V : Int → Int → Int → Int} {P : Int → Int → Int → Prop} {a b c m x y z : Int} (h : GdM V P (DnS a b c) m x y z) (hp : P a b c) (hv : m < V a b c) (h0 : 0 ≤ V a b c ∧ V a b c ≤ 1000000) : GdM V P (DnS a b (c + 1)) (V a b c) a b c := by
  have key : ∀ a' b' c', DnS a b (c + 1) a' b' c' → DnS a b c a' b' c' ∨ (a' = a ∧ b' = b ∧ c' = c) := fun a' b' c' q => by unfold DnS at *; omega
  refine ⟨by omega, fun a' b' c' p q => ?_, Or.inr ⟨hp, by unfold DnS; omega, rfl, fun a' b' c' p q r => ?_⟩⟩
  · rcases key _ _ _ q with q | ⟨rfl, rfl, rfl⟩
    · have := h.2.1 _ _ _ p q; omega
    · exact Int.le_refl _
  · have := h.2.1 _ _ _ p r; omega
theorem gV_rg {ρ : SG} (ho : ScOK ρ 1) {co al a b c : Int} (hco : 0 ≤ co ∧ co ≤ 60) (ha : 0 ≤ a) (hb : 0 ≤ b) (hc : 0 ≤ c) (hs : a + b + c ≤ al) : 0 ≤ gV ρ co al a b c ∧ gV ρ co al a b c ≤ 1000000 := by
  have w0 := waS_rg ho (w := 0) (a := a) (by decide) ha
  have w1 := waS_rg ho (w := 1) (a := b) (by decide) hb
  have w2 := waS_rg ho (w := 2) (a := c) (by decide) hc
  have k := GW3_rg ho hco (l := al - a - b - c) (by omega)
  rw [GW_3] at k
  unfold gV
  omega
def WaM (τ ρ : SG) (w a : Int) : Prop := ∀ v x, 0 ≤ v → v < 3 → 0 ≤ x → x ≤ 60 → (v < w ∨ (v = w ∧ x < a)) → τ.1 104 (61 * v + x) = waS ρ 1 v x

set_option maxHeartbeats 4000000 in
set_option maxRecDepth 100000 in
theorem l_gdG {X : AX} {d : Nat} {σ ρ : SG} {Q : Option AV → SG → Prop} (h : MdI σ ρ 1) (hR : MrR (σ.1 89) ρ 1) (w a : Int) (hw : 0 ≤ w ∧ w < 3) (ha : 0 ≤ a ∧ a ≤ 60) (τ : SG) (hF : Fr [104] σ τ) (hK : ∀ y4, Ev X 0 0 (d + 2) mX11_findGood 54 [some (rv 88), some (iv w), some (iv a), some (iv (waS ρ 1 w a)), y4, none, none, none, none] [] τ Q) : ∀ (k : Nat) (g cs : Int), 0 ≤ g → g ≤ (ρ.1 1 6) → (ρ.1 1 6) - g < k → ((ρ.1 1 7) ≤ w → g = 0) → cs = smI (fun g => wcS (ρ.1 3 w) (ρ.1 4 (g * 3 + w)) (ρ.1 5 (g * 3 + w)) a) g → Ev X 0 0 (d + 2) mX11_findGood 20 [some (rv 88), some (iv w), some (iv a), some (iv cs), some (iv g), none, none, none, none] [] τ Q := by
  intro k
  induction k with
  | zero => intros; omega
  | succ k ih =>
  intro g cs hg0 hg1 hgk hz hc
  have ho := h.1
  have hX := h.2.1
  have hG := ho.1
  have hW := ho.2.1
  have hN : τ.1 89 = σ.1 89 := (hF 89 (by decide)).1
  have hP : MrP (τ.1 89) ρ 1 := by rw [hN]; exact h.2.2.1
  refine e_iload (pc' := 22) dX11_findGood_20 rfl rfl ?_
  refine e_aload_n (pc' := 23) dX11_findGood_22 rfl rfl ?_
  refine e_cv0i (pc' := 26) dX11_findGood_23 rfl k_11_76 h_88 rfl (Nat.le_of_ble_eq_true rfl) rfl rfl ⟨rfl, rfl⟩ ⟨Nat.zero_le _, Nat.zero_le _⟩ s_m_givers ?_
  intro r σ' hr; rw [hr.1, hr.2, hP.1.1]; clear hr
  refine e_icmpI (pc' := 29) (t := 54) dX11_findGood_26 (by decide) rfl ⟨by omega, by omega⟩ ⟨by omega, by omega⟩ (fun (c2_1 : (ρ.1 1 6) ≤ (g : Int)) => ?_) (fun (c2_1 : ¬ ((ρ.1 1 6) ≤ (g : Int))) => ?_)
  · have e : cs = waS ρ 1 w a := by
      first
        | (rw [waS_z hG hX hw (by omega), hc, show g = 0 by omega]; rfl)
        | (rw [hc, show g = (ρ.1 1 6) by omega]; rfl)
    rw [e]
    exact hK _
  · refine e_iload_n (pc' := 30) dX11_findGood_29 rfl rfl ?_
    refine e_aload_n (pc' := 31) dX11_findGood_30 rfl rfl ?_
    refine e_cv0i (pc' := 34) dX11_findGood_31 rfl k_11_84 h_88 rfl (Nat.le_of_ble_eq_true rfl) rfl rfl ⟨rfl, rfl⟩ ⟨Nat.zero_le _, Nat.zero_le _⟩ s_m_works ?_
    intro r σ' hr; rw [hr.1, hr.2, hP.1.2.1]; clear hr
    refine e_icmpI (pc' := 37) (t := 54) dX11_findGood_34 (by decide) rfl ⟨by omega, by omega⟩ ⟨by omega, by omega⟩ (fun (c4_2 : (ρ.1 1 7) ≤ (w : Int)) => ?_) (fun (c4_2 : ¬ ((ρ.1 1 7) ≤ (w : Int))) => ?_)
    · have e : cs = waS ρ 1 w a := by
        first
          | (rw [waS_z hG hX hw (by omega), hc, show g = 0 by omega]; rfl)
          | (rw [hc, show g = (ρ.1 1 6) by omega]; rfl)
      rw [e]
      exact hK _
    · refine e_iload_n (pc' := 38) dX11_findGood_37 rfl rfl ?_
      refine e_aload_n (pc' := 39) dX11_findGood_38 rfl rfl ?_
      refine e_iload (pc' := 41) dX11_findGood_39 rfl rfl ?_
      refine e_iload_n (pc' := 42) dX11_findGood_41 rfl rfl ?_
      refine e_iload_n (pc' := 43) dX11_findGood_42 rfl rfl ?_
      refine e_cv3i (pc' := 46) dX11_findGood_43 rfl k_11_207 h_88 rfl (Nat.le_of_ble_eq_true rfl) rfl rfl ⟨rfl, rfl⟩ ⟨Nat.zero_le _, Nat.zero_le _⟩ (s_m_worthOf ρ 1 ho hP g w a ⟨by omega, by omega⟩ hw ⟨by omega, by omega⟩) ?_
      intro r σ' hr; rw [hr.1, hr.2]; clear hr
      refine e_iadd (pc' := 47) dX11_findGood_46 rfl ?_
      refine e_istore_n (pc' := 48) (L' := [some (rv 88), some (iv w), some (iv a), some (iv (cs + (wcS (ρ.1 3 w) (ρ.1 4 (g * 3 + w)) (ρ.1 5 (g * 3 + w)) a))), some (iv g), none, none, none, none]) dX11_findGood_47 rfl (by decide) rfl ?_
      refine e_iinc (pc' := 51) (L' := [some (rv 88), some (iv w), some (iv a), some (iv (cs + (wcS (ρ.1 3 w) (ρ.1 4 (g * 3 + w)) (ρ.1 5 (g * 3 + w)) a))), some (iv (g + 1)), none, none, none, none]) dX11_findGood_48 rfl rfl (by decide) rfl ?_
      refine e_goto (pc' := 20) dX11_findGood_51 (by decide) ?_
      exact ih _ _ (by omega) (by omega) (by omega) (by omega) (by rw [smI_s _ hg0, hc])

set_option maxHeartbeats 4000000 in
set_option maxRecDepth 100000 in
theorem l_gdA {X : AX} {d : Nat} {σ ρ : SG} {Q : Option AV → SG → Prop} (h : MdI σ ρ 1) (hR : MrR (σ.1 89) ρ 1) (w : Int) (hw : 0 ≤ w ∧ w < 3) (hK : ∀ (τ : SG) (y2 y3 y4 : Option AV), WaM τ ρ (w + 1) 0 → Fr [104] σ τ → Ev X 0 0 (d + 2) mX11_findGood 72 [some (rv 88), some (iv w), y2, y3, y4, none, none, none, none] [] τ Q) : ∀ (k : Nat) (a : Int) (τ : SG) (x3 x4 : Option AV), 0 ≤ a → a ≤ 61 → 61 - a < k → WaM τ ρ w a → Fr [104] σ τ → Ev X 0 0 (d + 2) mX11_findGood 9 [some (rv 88), some (iv w), some (iv a), x3, x4, none, none, none, none] [] τ Q := by
  intro k
  induction k with
  | zero => intros; omega
  | succ k ih =>
  intro a τ x3 x4 hac ha1 hak hI hF
  refine e_iload_n (pc' := 10) dX11_findGood_9 rfl rfl ?_
  refine e_bipush (pc' := 12) (z := 60) dX11_findGood_10 rfl (by decide) ?_
  refine e_icmpI (pc' := 15) (t := 72) dX11_findGood_12 (by decide) rfl ⟨by omega, by omega⟩ ⟨by omega, by omega⟩ (fun (c2_1 : 60 < (a : Int)) => ?_) (fun (c2_1 : ¬ (60 < (a : Int))) => ?_)
  · exact hK τ _ _ _ (fun v x p q r s t => hI v x p q r s (by omega)) hF
  · refine e_iconst (pc' := 16) dX11_findGood_15 rfl ?_
    refine e_istore_n (pc' := 17) (L' := [some (rv 88), some (iv w), some (iv a), some (iv 0), x4, none, none, none, none]) dX11_findGood_16 rfl (by decide) rfl ?_
    refine e_iconst (pc' := 18) dX11_findGood_17 rfl ?_
    refine e_istore (pc' := 20) (L' := [some (rv 88), some (iv w), some (iv a), some (iv 0), some (iv 0), none, none, none, none]) dX11_findGood_18 rfl (by decide) rfl ?_
    refine l_gdG h hR w a hw ⟨hac, by omega⟩ τ hF (fun y4 => ?_) ((ρ.1 1 6) + 1).toNat 0 0 (by omega) (by have := h.1.1; omega) (by omega) (fun _ => rfl) rfl
    refine e_aload_n (pc' := 55) dX11_findGood_54 rfl rfl ?_
    refine e_getR (pc' := 58) dX11_findGood_55 rfl f_11_64 h_88 rfl ?_
    refine e_bipush (pc' := 60) (z := 61) dX11_findGood_58 rfl (by decide) ?_
    refine e_iload_n (pc' := 61) dX11_findGood_60 rfl rfl ?_
    refine e_imul (pc' := 62) dX11_findGood_61 rfl ?_
    refine e_iload_n (pc' := 63) dX11_findGood_62 rfl rfl ?_
    refine e_iadd (pc' := 64) dX11_findGood_63 rfl ?_
    refine e_iload_n (pc' := 65) dX11_findGood_64 rfl rfl ?_
    refine e_iast (pc' := 66) dX11_findGood_65 rfl h_104 (by decide) (by omega) (by omega) ?_
    refine e_iinc (pc' := 69) (L' := [some (rv 88), some (iv w), some (iv (a + 1)), some (iv (waS ρ 1 w a)), y4, none, none, none, none]) dX11_findGood_66 rfl rfl (by decide) rfl ?_
    refine e_goto (pc' := 9) dX11_findGood_69 (by decide) ?_
    refine ih (a + 1) (upI τ 104 ((61 * w) + a) (waS ρ 1 w a)) _ _ (by omega) (by omega) (by omega) (fun v x p q r s t => ?_) (fr_I hF (by decide))
    by_cases hx : v = w ∧ x = a
    · rw [hx.1, hx.2]; exact if_pos ⟨rfl, rfl⟩
    · exact (if_neg (fun q => hx (by have := q.2; omega)) : (upI τ 104 ((61 * w) + a) (waS ρ 1 w a)).1 104 (61 * v + x) = τ.1 104 (61 * v + x)).trans (hI v x p q r s (by omega))

set_option maxHeartbeats 4000000 in
set_option maxRecDepth 100000 in
theorem l_gC {X : AX} {d : Nat} {σ ρ : SG} {Q : Option AV → SG → Prop} (h : MdI σ ρ 1) (hR : MrR (σ.1 89) ρ 1) (co al : Int) (hco : 0 ≤ co ∧ co ≤ 60) (hal : co ≤ al ∧ al ≤ 300) (a : Int) (ha : 0 ≤ a ∧ a ≤ 60 ∧ a ≤ al ∧ ((ρ.1 1 7) ≤ 0 → a = 0)) (b : Int) (hb : 0 ≤ b ∧ b ≤ 60 ∧ a + b ≤ al ∧ ((ρ.1 1 7) ≤ 1 → b = 0)) (hK : ∀ (τ : SG) (most : Int) (x6 x7 x8 : Option AV), (Fr [104, 105] σ τ ∧ WaM τ ρ 3 0) → GdM (gV ρ co al) (gP (ρ.1 1 7) al) (DnS a (b + 1) 0) most (τ.1 105 0) (τ.1 105 1) (τ.1 105 2) → Ev X 0 0 (d + 2) mX11_findGood 290 [some (rv 88), some (iv co), some (iv al), some (iv most), some (iv a), some (iv b), x6, x7, x8] [] τ Q) : ∀ (k : Nat) (c most : Int) (τ : SG) (x7 x8 : Option AV), 0 ≤ c → c ≤ 61 → 61 - c < k → (Fr [104, 105] σ τ ∧ WaM τ ρ 3 0) → GdM (gV ρ co al) (gP (ρ.1 1 7) al) (DnS a b c) most (τ.1 105 0) (τ.1 105 1) (τ.1 105 2) → Ev X 0 0 (d + 2) mX11_findGood 156 [some (rv 88), some (iv co), some (iv al), some (iv most), some (iv a), some (iv b), some (iv c), x7, x8] [] τ Q := by
  intro k
  induction k with
  | zero => intros; omega
  | succ k ih =>
  intro c most τ x7 x8 hc0 hc1 hck hS hI
  have ho := h.1
  have hX := h.2.1
  have hG := ho.1
  have hW := ho.2.1
  have hN : τ.1 89 = σ.1 89 := (hS.1 89 (by decide)).1
  have hP : MrP (τ.1 89) ρ 1 := by rw [hN]; exact h.2.2.1
  refine e_iload (pc' := 158) dX11_findGood_156 rfl rfl ?_
  refine e_aload_n (pc' := 159) dX11_findGood_158 rfl rfl ?_
  refine e_cv0i (pc' := 162) dX11_findGood_159 rfl k_11_84 h_88 rfl (Nat.le_of_ble_eq_true rfl) rfl rfl ⟨rfl, rfl⟩ ⟨Nat.zero_le _, Nat.zero_le _⟩ s_m_works ?_
  intro r σ' hr; rw [hr.1, hr.2, hP.1.2.1]; clear hr
  refine e_iconst (pc' := 163) dX11_findGood_162 rfl ?_
  refine e_icmpI (pc' := 166) (t := 171) dX11_findGood_163 (by decide) rfl (by first | exact ⟨by omega, by omega⟩ | exact ⟨by have := hI.1; omega, by have := hI.1; omega⟩) ⟨by omega, by omega⟩ (fun (c2_1 : ((ρ.1 1 7) : Int) ≤ 2) => ?_) (fun (c2_1 : ¬ (((ρ.1 1 7) : Int) ≤ 2)) => ?_)
  · refine e_iconst (pc' := 172) dX11_findGood_171 rfl ?_
    refine e_icmpI (pc' := 175) (t := 290) dX11_findGood_172 (by decide) rfl (by first | exact ⟨by omega, by omega⟩ | exact ⟨by have := hI.1; omega, by have := hI.1; omega⟩) ⟨by omega, by omega⟩ (fun (c4_2 : 0 < (c : Int)) => ?_) (fun (c4_2 : ¬ (0 < (c : Int))) => ?_)
    · exact hK τ most _ _ _ hS (hI.cg (fun a' b' c' p => by unfold gP at p; unfold DnS; omega))
    · refine e_iload (pc' := 177) dX11_findGood_175 rfl rfl ?_
      refine e_iload (pc' := 179) dX11_findGood_177 rfl rfl ?_
      refine e_iadd (pc' := 180) dX11_findGood_179 rfl ?_
      refine e_iload (pc' := 182) dX11_findGood_180 rfl rfl ?_
      refine e_iadd (pc' := 183) dX11_findGood_182 rfl ?_
      refine e_iload_n (pc' := 184) dX11_findGood_183 rfl rfl ?_
      refine e_icmpI (pc' := 187) (t := 290) dX11_findGood_184 (by decide) rfl (by first | exact ⟨by omega, by omega⟩ | exact ⟨by have := hI.1; omega, by have := hI.1; omega⟩) (by first | exact ⟨by omega, by omega⟩ | exact ⟨by have := hI.1; omega, by have := hI.1; omega⟩) (fun (c6_3 : al < (((a + b) + c) : Int)) => ?_) (fun (c6_3 : ¬ (al < (((a + b) + c) : Int))) => ?_)
      · exact hK τ most _ _ _ hS (hI.cg (fun a' b' c' p => by unfold gP at p; unfold DnS; omega))
      · have hw0 : τ.1 104 a = waS ρ 1 0 a := by have q := hS.2 0 a (by decide) (by decide) (by omega) (by omega) (Or.inl (by decide)); rw [show 61 * 0 + a = a by omega] at q; exact q
        have hw1 : τ.1 104 (61 + b) = waS ρ 1 1 b := by have q := hS.2 1 b (by decide) (by decide) (by omega) (by omega) (Or.inl (by decide)); rw [show 61 * 1 + b = 61 + b by omega] at q; exact q
        have hw2 : τ.1 104 (122 + c) = waS ρ 1 2 c := by have q := hS.2 2 c (by decide) (by decide) (by omega) (by omega) (Or.inl (by decide)); rw [show 61 * 2 + c = 122 + c by omega] at q; exact q
        have hp : (gP (ρ.1 1 7) al) a b c := ⟨⟨by omega, by omega, by omega⟩, ⟨by omega, by omega, by omega⟩, ⟨by omega, by omega, by omega⟩, by omega⟩
        have hvr := gV_rg ho hco (al := al) (a := a) (b := b) (c := c) (by omega) (by omega) (by omega) (by omega)
        refine e_iload_n (pc' := 188) dX11_findGood_187 rfl rfl ?_
        refine e_iload (pc' := 190) dX11_findGood_188 rfl rfl ?_
        refine e_isub (pc' := 191) dX11_findGood_190 rfl ?_
        refine e_iload (pc' := 193) dX11_findGood_191 rfl rfl ?_
        refine e_isub (pc' := 194) dX11_findGood_193 rfl ?_
        refine e_iload (pc' := 196) dX11_findGood_194 rfl rfl ?_
        refine e_isub (pc' := 197) dX11_findGood_196 rfl ?_
        refine e_istore (pc' := 199) (L' := [some (rv 88), some (iv co), some (iv al), some (iv most), some (iv a), some (iv b), some (iv c), some (iv (((al - a) - b) - c)), x8]) dX11_findGood_197 rfl (by decide) rfl ?_
        refine e_aload_n (pc' := 200) dX11_findGood_199 rfl rfl ?_
        refine e_getR (pc' := 203) dX11_findGood_200 rfl f_11_64 h_88 rfl ?_
        refine e_iload (pc' := 205) dX11_findGood_203 rfl rfl ?_
        refine e_iald (pc' := 206) (v := (waS ρ 1 0 a)) dX11_findGood_205 rfl h_104 (by decide) (by omega) (by omega) hw0 ?_
        refine e_aload_n (pc' := 207) dX11_findGood_206 rfl rfl ?_
        refine e_getR (pc' := 210) dX11_findGood_207 rfl f_11_64 h_88 rfl ?_
        refine e_bipush (pc' := 212) (z := 61) dX11_findGood_210 rfl (by decide) ?_
        refine e_iload (pc' := 214) dX11_findGood_212 rfl rfl ?_
        refine e_iadd (pc' := 215) dX11_findGood_214 rfl ?_
        refine e_iald (pc' := 216) (v := (waS ρ 1 1 b)) dX11_findGood_215 rfl h_104 (by decide) (by omega) (by omega) hw1 ?_
        refine e_iadd (pc' := 217) dX11_findGood_216 rfl ?_
        refine e_aload_n (pc' := 218) dX11_findGood_217 rfl rfl ?_
        refine e_getR (pc' := 221) dX11_findGood_218 rfl f_11_64 h_88 rfl ?_
        refine e_bipush (pc' := 223) (z := 122) dX11_findGood_221 rfl (by decide) ?_
        refine e_iload (pc' := 225) dX11_findGood_223 rfl rfl ?_
        refine e_iadd (pc' := 226) dX11_findGood_225 rfl ?_
        refine e_iald (pc' := 227) (v := (waS ρ 1 2 c)) dX11_findGood_226 rfl h_104 (by decide) (by omega) (by omega) hw2 ?_
        refine e_iadd (pc' := 228) dX11_findGood_227 rfl ?_
        refine e_aload_n (pc' := 229) dX11_findGood_228 rfl rfl ?_
        refine e_getR (pc' := 232) dX11_findGood_229 rfl f_11_7 h_88 rfl ?_
        refine e_bipush (pc' := 234) (z := 53) dX11_findGood_232 rfl (by decide) ?_
        refine e_iald (pc' := 235) (v := (ρ.1 1 8)) dX11_findGood_234 rfl h_89 (by decide) (by omega) (by omega) hP.1.2.2 ?_
        refine e_iload (pc' := 237) dX11_findGood_235 rfl rfl ?_
        refine e_iload_n (pc' := 238) dX11_findGood_237 rfl rfl ?_
        refine e_icmpI (pc' := 241) (t := 246) dX11_findGood_238 (by decide) rfl (by first | exact ⟨by omega, by omega⟩ | exact ⟨by have := hI.1; omega, by have := hI.1; omega⟩) (by first | exact ⟨by omega, by omega⟩ | exact ⟨by have := hI.1; omega, by have := hI.1; omega⟩) (fun (c8_4 : co ≤ ((((al - a) - b) - c) : Int)) => ?_) (fun (c8_4 : ¬ (co ≤ ((((al - a) - b) - c) : Int))) => ?_)
        · refine e_iload_n (pc' := 247) dX11_findGood_246 rfl rfl ?_
          refine e_imul (pc' := 248) dX11_findGood_247 rfl ?_
          refine e_iadd (pc' := 249) dX11_findGood_248 rfl ?_
          have hve : ((((waS ρ 1 0 a) + (waS ρ 1 1 b)) + (waS ρ 1 2 c)) + ((ρ.1 1 8) * co)) = (gV ρ co al) a b c := by
            unfold gV
            first
              | rw [show min (al - a - b - c) co = co by omega]
              | rw [show min (al - a - b - c) co = al - a - b - c by omega]
          rw [hve]
          refine e_istore (pc' := 251) (L' := [some (rv 88), some (iv co), some (iv al), some (iv most), some (iv a), some (iv b), some (iv c), some (iv (((al - a) - b) - c)), some (iv ((gV ρ co al) a b c))]) dX11_findGood_249 rfl (by decide) rfl ?_
          refine e_iload (pc' := 253) dX11_findGood_251 rfl rfl ?_
          refine e_iload_n (pc' := 254) dX11_findGood_253 rfl rfl ?_
          refine e_icmpI (pc' := 257) (t := 284) dX11_findGood_254 (by decide) rfl (by first | exact ⟨by omega, by omega⟩ | exact ⟨by have := hI.1; omega, by have := hI.1; omega⟩) (by first | exact ⟨by omega, by omega⟩ | exact ⟨by have := hI.1; omega, by have := hI.1; omega⟩) (fun (c10_5 : (((gV ρ co al) a b c) : Int) ≤ most) => ?_) (fun (c10_5 : ¬ ((((gV ρ co al) a b c) : Int) ≤ most)) => ?_)
          · refine e_iinc (pc' := 287) (L' := [some (rv 88), some (iv co), some (iv al), some (iv most), some (iv a), some (iv b), some (iv (c + 1)), some (iv (((al - a) - b) - c)), some (iv ((gV ρ co al) a b c))]) dX11_findGood_284 rfl rfl (by decide) rfl ?_
            refine e_goto (pc' := 156) dX11_findGood_287 (by decide) ?_
            exact ih (c + 1) most τ _ _ (by omega) (by omega) (by omega) hS (hI.skip (by omega) hvr.1)
          · refine e_iload (pc' := 259) dX11_findGood_257 rfl rfl ?_
            refine e_istore_n (pc' := 260) (L' := [some (rv 88), some (iv co), some (iv al), some (iv ((gV ρ co al) a b c)), some (iv a), some (iv b), some (iv c), some (iv (((al - a) - b) - c)), some (iv ((gV ρ co al) a b c))]) dX11_findGood_259 rfl (by decide) rfl ?_
            refine e_aload_n (pc' := 261) dX11_findGood_260 rfl rfl ?_
            refine e_getR (pc' := 264) dX11_findGood_261 rfl f_11_67 h_88 rfl ?_
            refine e_iconst (pc' := 265) dX11_findGood_264 rfl ?_
            refine e_iload (pc' := 267) dX11_findGood_265 rfl rfl ?_
            refine e_iast (pc' := 268) dX11_findGood_267 rfl h_105 (by decide) (by omega) (by omega) ?_
            refine e_aload_n (pc' := 269) dX11_findGood_268 rfl rfl ?_
            refine e_getR (pc' := 272) dX11_findGood_269 rfl f_11_67 h_88 rfl ?_
            refine e_iconst (pc' := 273) dX11_findGood_272 rfl ?_
            refine e_iload (pc' := 275) dX11_findGood_273 rfl rfl ?_
            refine e_iast (pc' := 276) dX11_findGood_275 rfl h_105 (by decide) (by omega) (by omega) ?_
            refine e_aload_n (pc' := 277) dX11_findGood_276 rfl rfl ?_
            refine e_getR (pc' := 280) dX11_findGood_277 rfl f_11_67 h_88 rfl ?_
            refine e_iconst (pc' := 281) dX11_findGood_280 rfl ?_
            refine e_iload (pc' := 283) dX11_findGood_281 rfl rfl ?_
            refine e_iast (pc' := 284) dX11_findGood_283 rfl h_105 (by decide) (by omega) (by omega) ?_
            refine e_iinc (pc' := 287) (L' := [some (rv 88), some (iv co), some (iv al), some (iv ((gV ρ co al) a b c)), some (iv a), some (iv b), some (iv (c + 1)), some (iv (((al - a) - b) - c)), some (iv ((gV ρ co al) a b c))]) dX11_findGood_284 rfl rfl (by decide) rfl ?_
            refine e_goto (pc' := 156) dX11_findGood_287 (by decide) ?_
            exact ih (c + 1) _ (upI (upI (upI τ 105 0 a) 105 1 b) 105 2 c) _ _ (by omega) (by omega) (by omega) ⟨fr_I (fr_I (fr_I hS.1 (by decide)) (by decide)) (by decide), hS.2⟩ (hI.take hp (by omega) hvr)
        · refine e_iload (pc' := 243) dX11_findGood_241 rfl rfl ?_
          refine e_goto (pc' := 247) dX11_findGood_243 (by decide) ?_
          refine e_imul (pc' := 248) dX11_findGood_247 rfl ?_
          refine e_iadd (pc' := 249) dX11_findGood_248 rfl ?_
          have hve : ((((waS ρ 1 0 a) + (waS ρ 1 1 b)) + (waS ρ 1 2 c)) + ((ρ.1 1 8) * (((al - a) - b) - c))) = (gV ρ co al) a b c := by
            unfold gV
            first
              | rw [show min (al - a - b - c) co = co by omega]
              | rw [show min (al - a - b - c) co = al - a - b - c by omega]
          rw [hve]
          refine e_istore (pc' := 251) (L' := [some (rv 88), some (iv co), some (iv al), some (iv most), some (iv a), some (iv b), some (iv c), some (iv (((al - a) - b) - c)), some (iv ((gV ρ co al) a b c))]) dX11_findGood_249 rfl (by decide) rfl ?_
          refine e_iload (pc' := 253) dX11_findGood_251 rfl rfl ?_
          refine e_iload_n (pc' := 254) dX11_findGood_253 rfl rfl ?_
          refine e_icmpI (pc' := 257) (t := 284) dX11_findGood_254 (by decide) rfl (by first | exact ⟨by omega, by omega⟩ | exact ⟨by have := hI.1; omega, by have := hI.1; omega⟩) (by first | exact ⟨by omega, by omega⟩ | exact ⟨by have := hI.1; omega, by have := hI.1; omega⟩) (fun (c10_5 : (((gV ρ co al) a b c) : Int) ≤ most) => ?_) (fun (c10_5 : ¬ ((((gV ρ co al) a b c) : Int) ≤ most)) => ?_)
          · refine e_iinc (pc' := 287) (L' := [some (rv 88), some (iv co), some (iv al), some (iv most), some (iv a), some (iv b), some (iv (c + 1)), some (iv (((al - a) - b) - c)), some (iv ((gV ρ co al) a b c))]) dX11_findGood_284 rfl rfl (by decide) rfl ?_
            refine e_goto (pc' := 156) dX11_findGood_287 (by decide) ?_
            exact ih (c + 1) most τ _ _ (by omega) (by omega) (by omega) hS (hI.skip (by omega) hvr.1)
          · refine e_iload (pc' := 259) dX11_findGood_257 rfl rfl ?_
            refine e_istore_n (pc' := 260) (L' := [some (rv 88), some (iv co), some (iv al), some (iv ((gV ρ co al) a b c)), some (iv a), some (iv b), some (iv c), some (iv (((al - a) - b) - c)), some (iv ((gV ρ co al) a b c))]) dX11_findGood_259 rfl (by decide) rfl ?_
            refine e_aload_n (pc' := 261) dX11_findGood_260 rfl rfl ?_
            refine e_getR (pc' := 264) dX11_findGood_261 rfl f_11_67 h_88 rfl ?_
            refine e_iconst (pc' := 265) dX11_findGood_264 rfl ?_
            refine e_iload (pc' := 267) dX11_findGood_265 rfl rfl ?_
            refine e_iast (pc' := 268) dX11_findGood_267 rfl h_105 (by decide) (by omega) (by omega) ?_
            refine e_aload_n (pc' := 269) dX11_findGood_268 rfl rfl ?_
            refine e_getR (pc' := 272) dX11_findGood_269 rfl f_11_67 h_88 rfl ?_
            refine e_iconst (pc' := 273) dX11_findGood_272 rfl ?_
            refine e_iload (pc' := 275) dX11_findGood_273 rfl rfl ?_
            refine e_iast (pc' := 276) dX11_findGood_275 rfl h_105 (by decide) (by omega) (by omega) ?_
            refine e_aload_n (pc' := 277) dX11_findGood_276 rfl rfl ?_
            refine e_getR (pc' := 280) dX11_findGood_277 rfl f_11_67 h_88 rfl ?_
            refine e_iconst (pc' := 281) dX11_findGood_280 rfl ?_
            refine e_iload (pc' := 283) dX11_findGood_281 rfl rfl ?_
            refine e_iast (pc' := 284) dX11_findGood_283 rfl h_105 (by decide) (by omega) (by omega) ?_
            refine e_iinc (pc' := 287) (L' := [some (rv 88), some (iv co), some (iv al), some (iv ((gV ρ co al) a b c)), some (iv a), some (iv b), some (iv (c + 1)), some (iv (((al - a) - b) - c)), some (iv ((gV ρ co al) a b c))]) dX11_findGood_284 rfl rfl (by decide) rfl ?_
            refine e_goto (pc' := 156) dX11_findGood_287 (by decide) ?_
            exact ih (c + 1) _ (upI (upI (upI τ 105 0 a) 105 1 b) 105 2 c) _ _ (by omega) (by omega) (by omega) ⟨fr_I (fr_I (fr_I hS.1 (by decide)) (by decide)) (by decide), hS.2⟩ (hI.take hp (by omega) hvr)
  · refine e_bipush (pc' := 168) (z := 60) dX11_findGood_166 rfl (by decide) ?_
    refine e_goto (pc' := 172) dX11_findGood_168 (by decide) ?_
    refine e_icmpI (pc' := 175) (t := 290) dX11_findGood_172 (by decide) rfl (by first | exact ⟨by omega, by omega⟩ | exact ⟨by have := hI.1; omega, by have := hI.1; omega⟩) ⟨by omega, by omega⟩ (fun (c4_2 : 60 < (c : Int)) => ?_) (fun (c4_2 : ¬ (60 < (c : Int))) => ?_)
    · exact hK τ most _ _ _ hS (hI.cg (fun a' b' c' p => by unfold gP at p; unfold DnS; omega))
    · refine e_iload (pc' := 177) dX11_findGood_175 rfl rfl ?_
      refine e_iload (pc' := 179) dX11_findGood_177 rfl rfl ?_
      refine e_iadd (pc' := 180) dX11_findGood_179 rfl ?_
      refine e_iload (pc' := 182) dX11_findGood_180 rfl rfl ?_
      refine e_iadd (pc' := 183) dX11_findGood_182 rfl ?_
      refine e_iload_n (pc' := 184) dX11_findGood_183 rfl rfl ?_
      refine e_icmpI (pc' := 187) (t := 290) dX11_findGood_184 (by decide) rfl (by first | exact ⟨by omega, by omega⟩ | exact ⟨by have := hI.1; omega, by have := hI.1; omega⟩) (by first | exact ⟨by omega, by omega⟩ | exact ⟨by have := hI.1; omega, by have := hI.1; omega⟩) (fun (c6_3 : al < (((a + b) + c) : Int)) => ?_) (fun (c6_3 : ¬ (al < (((a + b) + c) : Int))) => ?_)
      · exact hK τ most _ _ _ hS (hI.cg (fun a' b' c' p => by unfold gP at p; unfold DnS; omega))
      · have hw0 : τ.1 104 a = waS ρ 1 0 a := by have q := hS.2 0 a (by decide) (by decide) (by omega) (by omega) (Or.inl (by decide)); rw [show 61 * 0 + a = a by omega] at q; exact q
        have hw1 : τ.1 104 (61 + b) = waS ρ 1 1 b := by have q := hS.2 1 b (by decide) (by decide) (by omega) (by omega) (Or.inl (by decide)); rw [show 61 * 1 + b = 61 + b by omega] at q; exact q
        have hw2 : τ.1 104 (122 + c) = waS ρ 1 2 c := by have q := hS.2 2 c (by decide) (by decide) (by omega) (by omega) (Or.inl (by decide)); rw [show 61 * 2 + c = 122 + c by omega] at q; exact q
        have hp : (gP (ρ.1 1 7) al) a b c := ⟨⟨by omega, by omega, by omega⟩, ⟨by omega, by omega, by omega⟩, ⟨by omega, by omega, by omega⟩, by omega⟩
        have hvr := gV_rg ho hco (al := al) (a := a) (b := b) (c := c) (by omega) (by omega) (by omega) (by omega)
        refine e_iload_n (pc' := 188) dX11_findGood_187 rfl rfl ?_
        refine e_iload (pc' := 190) dX11_findGood_188 rfl rfl ?_
        refine e_isub (pc' := 191) dX11_findGood_190 rfl ?_
        refine e_iload (pc' := 193) dX11_findGood_191 rfl rfl ?_
        refine e_isub (pc' := 194) dX11_findGood_193 rfl ?_
        refine e_iload (pc' := 196) dX11_findGood_194 rfl rfl ?_
        refine e_isub (pc' := 197) dX11_findGood_196 rfl ?_
        refine e_istore (pc' := 199) (L' := [some (rv 88), some (iv co), some (iv al), some (iv most), some (iv a), some (iv b), some (iv c), some (iv (((al - a) - b) - c)), x8]) dX11_findGood_197 rfl (by decide) rfl ?_
        refine e_aload_n (pc' := 200) dX11_findGood_199 rfl rfl ?_
        refine e_getR (pc' := 203) dX11_findGood_200 rfl f_11_64 h_88 rfl ?_
        refine e_iload (pc' := 205) dX11_findGood_203 rfl rfl ?_
        refine e_iald (pc' := 206) (v := (waS ρ 1 0 a)) dX11_findGood_205 rfl h_104 (by decide) (by omega) (by omega) hw0 ?_
        refine e_aload_n (pc' := 207) dX11_findGood_206 rfl rfl ?_
        refine e_getR (pc' := 210) dX11_findGood_207 rfl f_11_64 h_88 rfl ?_
        refine e_bipush (pc' := 212) (z := 61) dX11_findGood_210 rfl (by decide) ?_
        refine e_iload (pc' := 214) dX11_findGood_212 rfl rfl ?_
        refine e_iadd (pc' := 215) dX11_findGood_214 rfl ?_
        refine e_iald (pc' := 216) (v := (waS ρ 1 1 b)) dX11_findGood_215 rfl h_104 (by decide) (by omega) (by omega) hw1 ?_
        refine e_iadd (pc' := 217) dX11_findGood_216 rfl ?_
        refine e_aload_n (pc' := 218) dX11_findGood_217 rfl rfl ?_
        refine e_getR (pc' := 221) dX11_findGood_218 rfl f_11_64 h_88 rfl ?_
        refine e_bipush (pc' := 223) (z := 122) dX11_findGood_221 rfl (by decide) ?_
        refine e_iload (pc' := 225) dX11_findGood_223 rfl rfl ?_
        refine e_iadd (pc' := 226) dX11_findGood_225 rfl ?_
        refine e_iald (pc' := 227) (v := (waS ρ 1 2 c)) dX11_findGood_226 rfl h_104 (by decide) (by omega) (by omega) hw2 ?_
        refine e_iadd (pc' := 228) dX11_findGood_227 rfl ?_
        refine e_aload_n (pc' := 229) dX11_findGood_228 rfl rfl ?_
        refine e_getR (pc' := 232) dX11_findGood_229 rfl f_11_7 h_88 rfl ?_
        refine e_bipush (pc' := 234) (z := 53) dX11_findGood_232 rfl (by decide) ?_
        refine e_iald (pc' := 235) (v := (ρ.1 1 8)) dX11_findGood_234 rfl h_89 (by decide) (by omega) (by omega) hP.1.2.2 ?_
        refine e_iload (pc' := 237) dX11_findGood_235 rfl rfl ?_
        refine e_iload_n (pc' := 238) dX11_findGood_237 rfl rfl ?_
        refine e_icmpI (pc' := 241) (t := 246) dX11_findGood_238 (by decide) rfl (by first | exact ⟨by omega, by omega⟩ | exact ⟨by have := hI.1; omega, by have := hI.1; omega⟩) (by first | exact ⟨by omega, by omega⟩ | exact ⟨by have := hI.1; omega, by have := hI.1; omega⟩) (fun (c8_4 : co ≤ ((((al - a) - b) - c) : Int)) => ?_) (fun (c8_4 : ¬ (co ≤ ((((al - a) - b) - c) : Int))) => ?_)
        · refine e_iload_n (pc' := 247) dX11_findGood_246 rfl rfl ?_
          refine e_imul (pc' := 248) dX11_findGood_247 rfl ?_
          refine e_iadd (pc' := 249) dX11_findGood_248 rfl ?_
          have hve : ((((waS ρ 1 0 a) + (waS ρ 1 1 b)) + (waS ρ 1 2 c)) + ((ρ.1 1 8) * co)) = (gV ρ co al) a b c := by
            unfold gV
            first
              | rw [show min (al - a - b - c) co = co by omega]
              | rw [show min (al - a - b - c) co = al - a - b - c by omega]
          rw [hve]
          refine e_istore (pc' := 251) (L' := [some (rv 88), some (iv co), some (iv al), some (iv most), some (iv a), some (iv b), some (iv c), some (iv (((al - a) - b) - c)), some (iv ((gV ρ co al) a b c))]) dX11_findGood_249 rfl (by decide) rfl ?_
          refine e_iload (pc' := 253) dX11_findGood_251 rfl rfl ?_
          refine e_iload_n (pc' := 254) dX11_findGood_253 rfl rfl ?_
          refine e_icmpI (pc' := 257) (t := 284) dX11_findGood_254 (by decide) rfl (by first | exact ⟨by omega, by omega⟩ | exact ⟨by have := hI.1; omega, by have := hI.1; omega⟩) (by first | exact ⟨by omega, by omega⟩ | exact ⟨by have := hI.1; omega, by have := hI.1; omega⟩) (fun (c10_5 : (((gV ρ co al) a b c) : Int) ≤ most) => ?_) (fun (c10_5 : ¬ ((((gV ρ co al) a b c) : Int) ≤ most)) => ?_)
          · refine e_iinc (pc' := 287) (L' := [some (rv 88), some (iv co), some (iv al), some (iv most), some (iv a), some (iv b), some (iv (c + 1)), some (iv (((al - a) - b) - c)), some (iv ((gV ρ co al) a b c))]) dX11_findGood_284 rfl rfl (by decide) rfl ?_
            refine e_goto (pc' := 156) dX11_findGood_287 (by decide) ?_
            exact ih (c + 1) most τ _ _ (by omega) (by omega) (by omega) hS (hI.skip (by omega) hvr.1)
          · refine e_iload (pc' := 259) dX11_findGood_257 rfl rfl ?_
            refine e_istore_n (pc' := 260) (L' := [some (rv 88), some (iv co), some (iv al), some (iv ((gV ρ co al) a b c)), some (iv a), some (iv b), some (iv c), some (iv (((al - a) - b) - c)), some (iv ((gV ρ co al) a b c))]) dX11_findGood_259 rfl (by decide) rfl ?_
            refine e_aload_n (pc' := 261) dX11_findGood_260 rfl rfl ?_
            refine e_getR (pc' := 264) dX11_findGood_261 rfl f_11_67 h_88 rfl ?_
            refine e_iconst (pc' := 265) dX11_findGood_264 rfl ?_
            refine e_iload (pc' := 267) dX11_findGood_265 rfl rfl ?_
            refine e_iast (pc' := 268) dX11_findGood_267 rfl h_105 (by decide) (by omega) (by omega) ?_
            refine e_aload_n (pc' := 269) dX11_findGood_268 rfl rfl ?_
            refine e_getR (pc' := 272) dX11_findGood_269 rfl f_11_67 h_88 rfl ?_
            refine e_iconst (pc' := 273) dX11_findGood_272 rfl ?_
            refine e_iload (pc' := 275) dX11_findGood_273 rfl rfl ?_
            refine e_iast (pc' := 276) dX11_findGood_275 rfl h_105 (by decide) (by omega) (by omega) ?_
            refine e_aload_n (pc' := 277) dX11_findGood_276 rfl rfl ?_
            refine e_getR (pc' := 280) dX11_findGood_277 rfl f_11_67 h_88 rfl ?_
            refine e_iconst (pc' := 281) dX11_findGood_280 rfl ?_
            refine e_iload (pc' := 283) dX11_findGood_281 rfl rfl ?_
            refine e_iast (pc' := 284) dX11_findGood_283 rfl h_105 (by decide) (by omega) (by omega) ?_
            refine e_iinc (pc' := 287) (L' := [some (rv 88), some (iv co), some (iv al), some (iv ((gV ρ co al) a b c)), some (iv a), some (iv b), some (iv (c + 1)), some (iv (((al - a) - b) - c)), some (iv ((gV ρ co al) a b c))]) dX11_findGood_284 rfl rfl (by decide) rfl ?_
            refine e_goto (pc' := 156) dX11_findGood_287 (by decide) ?_
            exact ih (c + 1) _ (upI (upI (upI τ 105 0 a) 105 1 b) 105 2 c) _ _ (by omega) (by omega) (by omega) ⟨fr_I (fr_I (fr_I hS.1 (by decide)) (by decide)) (by decide), hS.2⟩ (hI.take hp (by omega) hvr)
        · refine e_iload (pc' := 243) dX11_findGood_241 rfl rfl ?_
          refine e_goto (pc' := 247) dX11_findGood_243 (by decide) ?_
          refine e_imul (pc' := 248) dX11_findGood_247 rfl ?_
          refine e_iadd (pc' := 249) dX11_findGood_248 rfl ?_
          have hve : ((((waS ρ 1 0 a) + (waS ρ 1 1 b)) + (waS ρ 1 2 c)) + ((ρ.1 1 8) * (((al - a) - b) - c))) = (gV ρ co al) a b c := by
            unfold gV
            first
              | rw [show min (al - a - b - c) co = co by omega]
              | rw [show min (al - a - b - c) co = al - a - b - c by omega]
          rw [hve]
          refine e_istore (pc' := 251) (L' := [some (rv 88), some (iv co), some (iv al), some (iv most), some (iv a), some (iv b), some (iv c), some (iv (((al - a) - b) - c)), some (iv ((gV ρ co al) a b c))]) dX11_findGood_249 rfl (by decide) rfl ?_
          refine e_iload (pc' := 253) dX11_findGood_251 rfl rfl ?_
          refine e_iload_n (pc' := 254) dX11_findGood_253 rfl rfl ?_
          refine e_icmpI (pc' := 257) (t := 284) dX11_findGood_254 (by decide) rfl (by first | exact ⟨by omega, by omega⟩ | exact ⟨by have := hI.1; omega, by have := hI.1; omega⟩) (by first | exact ⟨by omega, by omega⟩ | exact ⟨by have := hI.1; omega, by have := hI.1; omega⟩) (fun (c10_5 : (((gV ρ co al) a b c) : Int) ≤ most) => ?_) (fun (c10_5 : ¬ ((((gV ρ co al) a b c) : Int) ≤ most)) => ?_)
          · refine e_iinc (pc' := 287) (L' := [some (rv 88), some (iv co), some (iv al), some (iv most), some (iv a), some (iv b), some (iv (c + 1)), some (iv (((al - a) - b) - c)), some (iv ((gV ρ co al) a b c))]) dX11_findGood_284 rfl rfl (by decide) rfl ?_
            refine e_goto (pc' := 156) dX11_findGood_287 (by decide) ?_
            exact ih (c + 1) most τ _ _ (by omega) (by omega) (by omega) hS (hI.skip (by omega) hvr.1)
          · refine e_iload (pc' := 259) dX11_findGood_257 rfl rfl ?_
            refine e_istore_n (pc' := 260) (L' := [some (rv 88), some (iv co), some (iv al), some (iv ((gV ρ co al) a b c)), some (iv a), some (iv b), some (iv c), some (iv (((al - a) - b) - c)), some (iv ((gV ρ co al) a b c))]) dX11_findGood_259 rfl (by decide) rfl ?_
            refine e_aload_n (pc' := 261) dX11_findGood_260 rfl rfl ?_
            refine e_getR (pc' := 264) dX11_findGood_261 rfl f_11_67 h_88 rfl ?_
            refine e_iconst (pc' := 265) dX11_findGood_264 rfl ?_
            refine e_iload (pc' := 267) dX11_findGood_265 rfl rfl ?_
            refine e_iast (pc' := 268) dX11_findGood_267 rfl h_105 (by decide) (by omega) (by omega) ?_
            refine e_aload_n (pc' := 269) dX11_findGood_268 rfl rfl ?_
            refine e_getR (pc' := 272) dX11_findGood_269 rfl f_11_67 h_88 rfl ?_
            refine e_iconst (pc' := 273) dX11_findGood_272 rfl ?_
            refine e_iload (pc' := 275) dX11_findGood_273 rfl rfl ?_
            refine e_iast (pc' := 276) dX11_findGood_275 rfl h_105 (by decide) (by omega) (by omega) ?_
            refine e_aload_n (pc' := 277) dX11_findGood_276 rfl rfl ?_
            refine e_getR (pc' := 280) dX11_findGood_277 rfl f_11_67 h_88 rfl ?_
            refine e_iconst (pc' := 281) dX11_findGood_280 rfl ?_
            refine e_iload (pc' := 283) dX11_findGood_281 rfl rfl ?_
            refine e_iast (pc' := 284) dX11_findGood_283 rfl h_105 (by decide) (by omega) (by omega) ?_
            refine e_iinc (pc' := 287) (L' := [some (rv 88), some (iv co), some (iv al), some (iv ((gV ρ co al) a b c)), some (iv a), some (iv b), some (iv (c + 1)), some (iv (((al - a) - b) - c)), some (iv ((gV ρ co al) a b c))]) dX11_findGood_284 rfl rfl (by decide) rfl ?_
            refine e_goto (pc' := 156) dX11_findGood_287 (by decide) ?_
            exact ih (c + 1) _ (upI (upI (upI τ 105 0 a) 105 1 b) 105 2 c) _ _ (by omega) (by omega) (by omega) ⟨fr_I (fr_I (fr_I hS.1 (by decide)) (by decide)) (by decide), hS.2⟩ (hI.take hp (by omega) hvr)

set_option maxHeartbeats 4000000 in
set_option maxRecDepth 100000 in
theorem l_gB {X : AX} {d : Nat} {σ ρ : SG} {Q : Option AV → SG → Prop} (h : MdI σ ρ 1) (hR : MrR (σ.1 89) ρ 1) (co al : Int) (hco : 0 ≤ co ∧ co ≤ 60) (hal : co ≤ al ∧ al ≤ 300) (a : Int) (ha : 0 ≤ a ∧ a ≤ 60 ∧ a ≤ al ∧ ((ρ.1 1 7) ≤ 0 → a = 0)) (hK : ∀ (τ : SG) (most : Int) (x5 x6 x7 x8 : Option AV), (Fr [104, 105] σ τ ∧ WaM τ ρ 3 0) → GdM (gV ρ co al) (gP (ρ.1 1 7) al) (DnS (a + 1) 0 0) most (τ.1 105 0) (τ.1 105 1) (τ.1 105 2) → Ev X 0 0 (d + 2) mX11_findGood 296 [some (rv 88), some (iv co), some (iv al), some (iv most), some (iv a), x5, x6, x7, x8] [] τ Q) : ∀ (k : Nat) (b most : Int) (τ : SG) (x6 x7 x8 : Option AV), 0 ≤ b → b ≤ 61 → 61 - b < k → (Fr [104, 105] σ τ ∧ WaM τ ρ 3 0) → GdM (gV ρ co al) (gP (ρ.1 1 7) al) (DnS a b 0) most (τ.1 105 0) (τ.1 105 1) (τ.1 105 2) → Ev X 0 0 (d + 2) mX11_findGood 125 [some (rv 88), some (iv co), some (iv al), some (iv most), some (iv a), some (iv b), x6, x7, x8] [] τ Q := by
  intro k
  induction k with
  | zero => intros; omega
  | succ k ih =>
  intro b most τ x6 x7 x8 hb0 hb1 hbk hS hI
  have ho := h.1
  have hX := h.2.1
  have hG := ho.1
  have hW := ho.2.1
  have hN : τ.1 89 = σ.1 89 := (hS.1 89 (by decide)).1
  have hP : MrP (τ.1 89) ρ 1 := by rw [hN]; exact h.2.2.1
  refine e_iload (pc' := 127) dX11_findGood_125 rfl rfl ?_
  refine e_aload_n (pc' := 128) dX11_findGood_127 rfl rfl ?_
  refine e_cv0i (pc' := 131) dX11_findGood_128 rfl k_11_84 h_88 rfl (Nat.le_of_ble_eq_true rfl) rfl rfl ⟨rfl, rfl⟩ ⟨Nat.zero_le _, Nat.zero_le _⟩ s_m_works ?_
  intro r σ' hr; rw [hr.1, hr.2, hP.1.2.1]; clear hr
  refine e_iconst (pc' := 132) dX11_findGood_131 rfl ?_
  refine e_icmpI (pc' := 135) (t := 140) dX11_findGood_132 (by decide) rfl ⟨by omega, by omega⟩ ⟨by omega, by omega⟩ (fun (c2_1 : ((ρ.1 1 7) : Int) ≤ 1) => ?_) (fun (c2_1 : ¬ (((ρ.1 1 7) : Int) ≤ 1)) => ?_)
  · refine e_iconst (pc' := 141) dX11_findGood_140 rfl ?_
    refine e_icmpI (pc' := 144) (t := 296) dX11_findGood_141 (by decide) rfl ⟨by omega, by omega⟩ ⟨by omega, by omega⟩ (fun (c4_2 : 0 < (b : Int)) => ?_) (fun (c4_2 : ¬ (0 < (b : Int))) => ?_)
    · exact hK τ most _ _ _ _ hS (hI.cg (fun a' b' c' p => by unfold gP at p; unfold DnS; omega))
    · refine e_iload (pc' := 146) dX11_findGood_144 rfl rfl ?_
      refine e_iload (pc' := 148) dX11_findGood_146 rfl rfl ?_
      refine e_iadd (pc' := 149) dX11_findGood_148 rfl ?_
      refine e_iload_n (pc' := 150) dX11_findGood_149 rfl rfl ?_
      refine e_icmpI (pc' := 153) (t := 296) dX11_findGood_150 (by decide) rfl ⟨by omega, by omega⟩ ⟨by omega, by omega⟩ (fun (c6_3 : al < ((a + b) : Int)) => ?_) (fun (c6_3 : ¬ (al < ((a + b) : Int))) => ?_)
      · exact hK τ most _ _ _ _ hS (hI.cg (fun a' b' c' p => by unfold gP at p; unfold DnS; omega))
      · refine e_iconst (pc' := 154) dX11_findGood_153 rfl ?_
        refine e_istore (pc' := 156) (L' := [some (rv 88), some (iv co), some (iv al), some (iv most), some (iv a), some (iv b), some (iv 0), x7, x8]) dX11_findGood_154 rfl (by decide) rfl ?_
        refine l_gC h hR co al hco hal a ha b ⟨by omega, by omega, by omega, by omega⟩ (fun τ' most' x6' x7' x8' hS' hI' => ?_) 62 0 most τ _ _ (by decide) (by decide) (by decide) hS hI
        refine e_iinc (pc' := 293) (L' := [some (rv 88), some (iv co), some (iv al), some (iv most'), some (iv a), some (iv (b + 1)), x6', x7', x8']) dX11_findGood_290 rfl rfl (by decide) rfl ?_
        refine e_goto (pc' := 125) dX11_findGood_293 (by decide) ?_
        exact ih (b + 1) most' τ' _ _ _ (by omega) (by omega) (by omega) hS' hI'
  · refine e_bipush (pc' := 137) (z := 60) dX11_findGood_135 rfl (by decide) ?_
    refine e_goto (pc' := 141) dX11_findGood_137 (by decide) ?_
    refine e_icmpI (pc' := 144) (t := 296) dX11_findGood_141 (by decide) rfl ⟨by omega, by omega⟩ ⟨by omega, by omega⟩ (fun (c4_2 : 60 < (b : Int)) => ?_) (fun (c4_2 : ¬ (60 < (b : Int))) => ?_)
    · exact hK τ most _ _ _ _ hS (hI.cg (fun a' b' c' p => by unfold gP at p; unfold DnS; omega))
    · refine e_iload (pc' := 146) dX11_findGood_144 rfl rfl ?_
      refine e_iload (pc' := 148) dX11_findGood_146 rfl rfl ?_
      refine e_iadd (pc' := 149) dX11_findGood_148 rfl ?_
      refine e_iload_n (pc' := 150) dX11_findGood_149 rfl rfl ?_
      refine e_icmpI (pc' := 153) (t := 296) dX11_findGood_150 (by decide) rfl ⟨by omega, by omega⟩ ⟨by omega, by omega⟩ (fun (c6_3 : al < ((a + b) : Int)) => ?_) (fun (c6_3 : ¬ (al < ((a + b) : Int))) => ?_)
      · exact hK τ most _ _ _ _ hS (hI.cg (fun a' b' c' p => by unfold gP at p; unfold DnS; omega))
      · refine e_iconst (pc' := 154) dX11_findGood_153 rfl ?_
        refine e_istore (pc' := 156) (L' := [some (rv 88), some (iv co), some (iv al), some (iv most), some (iv a), some (iv b), some (iv 0), x7, x8]) dX11_findGood_154 rfl (by decide) rfl ?_
        refine l_gC h hR co al hco hal a ha b ⟨by omega, by omega, by omega, by omega⟩ (fun τ' most' x6' x7' x8' hS' hI' => ?_) 62 0 most τ _ _ (by decide) (by decide) (by decide) hS hI
        refine e_iinc (pc' := 293) (L' := [some (rv 88), some (iv co), some (iv al), some (iv most'), some (iv a), some (iv (b + 1)), x6', x7', x8']) dX11_findGood_290 rfl rfl (by decide) rfl ?_
        refine e_goto (pc' := 125) dX11_findGood_293 (by decide) ?_
        exact ih (b + 1) most' τ' _ _ _ (by omega) (by omega) (by omega) hS' hI'

set_option maxHeartbeats 4000000 in
set_option maxRecDepth 100000 in
theorem l_gA {X : AX} {d : Nat} {σ ρ : SG} (h : MdI σ ρ 1) (hR : MrR (σ.1 89) ρ 1) (co al : Int) (hco : 0 ≤ co ∧ co ≤ 60) (hal : co ≤ al ∧ al ≤ 300) : ∀ (k : Nat) (a most : Int) (τ : SG) (x5 x6 x7 x8 : Option AV), 0 ≤ a → a ≤ 61 → 61 - a < k → (Fr [104, 105] σ τ ∧ WaM τ ρ 3 0) → GdM (gV ρ co al) (gP (ρ.1 1 7) al) (DnS a 0 0) most (τ.1 105 0) (τ.1 105 1) (τ.1 105 2) → Ev X 0 0 (d + 2) mX11_findGood 98 [some (rv 88), some (iv co), some (iv al), some (iv most), some (iv a), x5, x6, x7, x8] [] τ (QI (fun r σ' => r = GW ρ co 0 al ∧ (σ'.1 105 0 = (gR ρ co 0 al) ∧ σ'.1 105 1 = (gR ρ co 1 (al - (gR ρ co 0 al))) ∧ σ'.1 105 2 = (gR ρ co 2 (al - (gR ρ co 0 al) - (gR ρ co 1 (al - (gR ρ co 0 al)))))) ∧ Fr [104, 105] σ σ')) := by
  intro k
  induction k with
  | zero => intros; omega
  | succ k ih =>
  intro a most τ x5 x6 x7 x8 ha0 ha1 hak hS hI
  have ho := h.1
  have hX := h.2.1
  have hG := ho.1
  have hW := ho.2.1
  have hN : τ.1 89 = σ.1 89 := (hS.1 89 (by decide)).1
  have hP : MrP (τ.1 89) ρ 1 := by rw [hN]; exact h.2.2.1
  refine e_iload (pc' := 100) dX11_findGood_98 rfl rfl ?_
  refine e_aload_n (pc' := 101) dX11_findGood_100 rfl rfl ?_
  refine e_cv0i (pc' := 104) dX11_findGood_101 rfl k_11_84 h_88 rfl (Nat.le_of_ble_eq_true rfl) rfl rfl ⟨rfl, rfl⟩ ⟨Nat.zero_le _, Nat.zero_le _⟩ s_m_works ?_
  intro r σ' hr; rw [hr.1, hr.2, hP.1.2.1]; clear hr
  refine e_ifI (pc' := 107) (t := 112) dX11_findGood_104 (by decide) rfl ⟨by omega, by omega⟩ (fun (c2_1 : ((ρ.1 1 7) : Int) ≤ 0) => ?_) (fun (c2_1 : ¬ (((ρ.1 1 7) : Int) ≤ 0)) => ?_)
  · refine e_iconst (pc' := 113) dX11_findGood_112 rfl ?_
    refine e_icmpI (pc' := 116) (t := 302) dX11_findGood_113 (by decide) rfl ⟨by omega, by omega⟩ ⟨by omega, by omega⟩ (fun (c4_2 : 0 < (a : Int)) => ?_) (fun (c4_2 : ¬ (0 < (a : Int))) => ?_)
    · refine e_iload_n (pc' := 303) dX11_findGood_302 rfl rfl ?_
      exact e_iret dX11_findGood_303 rfl ⟨rfl, Nat.le_refl _⟩ (by
    have hall : ∀ a' b' c', (gP (ρ.1 1 7) al) a' b' c' → DnS a 0 0 a' b' c' := fun a' b' c' p => by unfold gP at p; unfold DnS; omega
    have hfl : FL (gV ρ co al) (gP (ρ.1 1 7) al) most (τ.1 105 0) (τ.1 105 1) (τ.1 105 2) := by
      rcases hI.2.2 with ⟨h1, h2⟩ | ⟨h1, h2, h3, h4⟩
      · have p0 : (gP (ρ.1 1 7) al) 0 0 0 := ⟨⟨by decide, by decide, fun _ => rfl⟩, ⟨by decide, by decide, fun _ => rfl⟩, ⟨by decide, by decide, fun _ => rfl⟩, by omega⟩
        exact absurd (hall 0 0 0 p0) (h2 0 0 0 p0)
      · exact ⟨h1, h3, fun a' b' c' p => hI.2.1 a' b' c' p (hall a' b' c' p), fun a' b' c' p q => h4 a' b' c' p (hall a' b' c' p) q⟩
    have u := FL_uni hfl (FL_cls ho hX hco (by omega))
    exact ⟨_, rfl, u.1, ⟨u.2.1, u.2.2.1, u.2.2.2⟩, hS.1⟩)
    · refine e_iload (pc' := 118) dX11_findGood_116 rfl rfl ?_
      refine e_iload_n (pc' := 119) dX11_findGood_118 rfl rfl ?_
      refine e_icmpI (pc' := 122) (t := 302) dX11_findGood_119 (by decide) rfl ⟨by omega, by omega⟩ ⟨by omega, by omega⟩ (fun (c6_3 : al < (a : Int)) => ?_) (fun (c6_3 : ¬ (al < (a : Int))) => ?_)
      · refine e_iload_n (pc' := 303) dX11_findGood_302 rfl rfl ?_
        exact e_iret dX11_findGood_303 rfl ⟨rfl, Nat.le_refl _⟩ (by
    have hall : ∀ a' b' c', (gP (ρ.1 1 7) al) a' b' c' → DnS a 0 0 a' b' c' := fun a' b' c' p => by unfold gP at p; unfold DnS; omega
    have hfl : FL (gV ρ co al) (gP (ρ.1 1 7) al) most (τ.1 105 0) (τ.1 105 1) (τ.1 105 2) := by
      rcases hI.2.2 with ⟨h1, h2⟩ | ⟨h1, h2, h3, h4⟩
      · have p0 : (gP (ρ.1 1 7) al) 0 0 0 := ⟨⟨by decide, by decide, fun _ => rfl⟩, ⟨by decide, by decide, fun _ => rfl⟩, ⟨by decide, by decide, fun _ => rfl⟩, by omega⟩
        exact absurd (hall 0 0 0 p0) (h2 0 0 0 p0)
      · exact ⟨h1, h3, fun a' b' c' p => hI.2.1 a' b' c' p (hall a' b' c' p), fun a' b' c' p q => h4 a' b' c' p (hall a' b' c' p) q⟩
    have u := FL_uni hfl (FL_cls ho hX hco (by omega))
    exact ⟨_, rfl, u.1, ⟨u.2.1, u.2.2.1, u.2.2.2⟩, hS.1⟩)
      · refine e_iconst (pc' := 123) dX11_findGood_122 rfl ?_
        refine e_istore (pc' := 125) (L' := [some (rv 88), some (iv co), some (iv al), some (iv most), some (iv a), some (iv 0), x6, x7, x8]) dX11_findGood_123 rfl (by decide) rfl ?_
        refine l_gB h hR co al hco hal a ⟨by omega, by omega, by omega, by omega⟩ (fun τ' most' x5' x6' x7' x8' hS' hI' => ?_) 62 0 most τ _ _ _ (by decide) (by decide) (by decide) hS hI
        refine e_iinc (pc' := 299) (L' := [some (rv 88), some (iv co), some (iv al), some (iv most'), some (iv (a + 1)), x5', x6', x7', x8']) dX11_findGood_296 rfl rfl (by decide) rfl ?_
        refine e_goto (pc' := 98) dX11_findGood_299 (by decide) ?_
        exact ih (a + 1) most' τ' _ _ _ _ (by omega) (by omega) (by omega) hS' hI'
  · refine e_bipush (pc' := 109) (z := 60) dX11_findGood_107 rfl (by decide) ?_
    refine e_goto (pc' := 113) dX11_findGood_109 (by decide) ?_
    refine e_icmpI (pc' := 116) (t := 302) dX11_findGood_113 (by decide) rfl ⟨by omega, by omega⟩ ⟨by omega, by omega⟩ (fun (c4_2 : 60 < (a : Int)) => ?_) (fun (c4_2 : ¬ (60 < (a : Int))) => ?_)
    · refine e_iload_n (pc' := 303) dX11_findGood_302 rfl rfl ?_
      exact e_iret dX11_findGood_303 rfl ⟨rfl, Nat.le_refl _⟩ (by
    have hall : ∀ a' b' c', (gP (ρ.1 1 7) al) a' b' c' → DnS a 0 0 a' b' c' := fun a' b' c' p => by unfold gP at p; unfold DnS; omega
    have hfl : FL (gV ρ co al) (gP (ρ.1 1 7) al) most (τ.1 105 0) (τ.1 105 1) (τ.1 105 2) := by
      rcases hI.2.2 with ⟨h1, h2⟩ | ⟨h1, h2, h3, h4⟩
      · have p0 : (gP (ρ.1 1 7) al) 0 0 0 := ⟨⟨by decide, by decide, fun _ => rfl⟩, ⟨by decide, by decide, fun _ => rfl⟩, ⟨by decide, by decide, fun _ => rfl⟩, by omega⟩
        exact absurd (hall 0 0 0 p0) (h2 0 0 0 p0)
      · exact ⟨h1, h3, fun a' b' c' p => hI.2.1 a' b' c' p (hall a' b' c' p), fun a' b' c' p q => h4 a' b' c' p (hall a' b' c' p) q⟩
    have u := FL_uni hfl (FL_cls ho hX hco (by omega))
    exact ⟨_, rfl, u.1, ⟨u.2.1, u.2.2.1, u.2.2.2⟩, hS.1⟩)
    · refine e_iload (pc' := 118) dX11_findGood_116 rfl rfl ?_
      refine e_iload_n (pc' := 119) dX11_findGood_118 rfl rfl ?_
      refine e_icmpI (pc' := 122) (t := 302) dX11_findGood_119 (by decide) rfl ⟨by omega, by omega⟩ ⟨by omega, by omega⟩ (fun (c6_3 : al < (a : Int)) => ?_) (fun (c6_3 : ¬ (al < (a : Int))) => ?_)
      · refine e_iload_n (pc' := 303) dX11_findGood_302 rfl rfl ?_
        exact e_iret dX11_findGood_303 rfl ⟨rfl, Nat.le_refl _⟩ (by
    have hall : ∀ a' b' c', (gP (ρ.1 1 7) al) a' b' c' → DnS a 0 0 a' b' c' := fun a' b' c' p => by unfold gP at p; unfold DnS; omega
    have hfl : FL (gV ρ co al) (gP (ρ.1 1 7) al) most (τ.1 105 0) (τ.1 105 1) (τ.1 105 2) := by
      rcases hI.2.2 with ⟨h1, h2⟩ | ⟨h1, h2, h3, h4⟩
      · have p0 : (gP (ρ.1 1 7) al) 0 0 0 := ⟨⟨by decide, by decide, fun _ => rfl⟩, ⟨by decide, by decide, fun _ => rfl⟩, ⟨by decide, by decide, fun _ => rfl⟩, by omega⟩
        exact absurd (hall 0 0 0 p0) (h2 0 0 0 p0)
      · exact ⟨h1, h3, fun a' b' c' p => hI.2.1 a' b' c' p (hall a' b' c' p), fun a' b' c' p q => h4 a' b' c' p (hall a' b' c' p) q⟩
    have u := FL_uni hfl (FL_cls ho hX hco (by omega))
    exact ⟨_, rfl, u.1, ⟨u.2.1, u.2.2.1, u.2.2.2⟩, hS.1⟩)
      · refine e_iconst (pc' := 123) dX11_findGood_122 rfl ?_
        refine e_istore (pc' := 125) (L' := [some (rv 88), some (iv co), some (iv al), some (iv most), some (iv a), some (iv 0), x6, x7, x8]) dX11_findGood_123 rfl (by decide) rfl ?_
        refine l_gB h hR co al hco hal a ⟨by omega, by omega, by omega, by omega⟩ (fun τ' most' x5' x6' x7' x8' hS' hI' => ?_) 62 0 most τ _ _ _ (by decide) (by decide) (by decide) hS hI
        refine e_iinc (pc' := 299) (L' := [some (rv 88), some (iv co), some (iv al), some (iv most'), some (iv (a + 1)), x5', x6', x7', x8']) dX11_findGood_296 rfl rfl (by decide) rfl ?_
        refine e_goto (pc' := 98) dX11_findGood_299 (by decide) ?_
        exact ih (a + 1) most' τ' _ _ _ _ (by omega) (by omega) (by omega) hS' hI'

set_option maxHeartbeats 4000000 in
set_option maxRecDepth 100000 in
theorem s_m_findGood {X : AX} {d : Nat} {σ ρ : SG} (h : MdI σ ρ 1) (hR : MrR (σ.1 89) ρ 1) : Ev X 0 0 (d + 2) mX11_findGood 0 [some (rv 88), none, none, none, none, none, none, none, none] [] σ (QI (fun r σ' => r = GW ρ (smI (ρ.1 2) (ρ.1 1 6)) 0 ((smI (ρ.1 2) (ρ.1 1 6)) + ρ.1 1 10) ∧ (σ'.1 105 0 = (gR ρ (smI (ρ.1 2) (ρ.1 1 6)) 0 ((smI (ρ.1 2) (ρ.1 1 6)) + ρ.1 1 10)) ∧ σ'.1 105 1 = (gR ρ (smI (ρ.1 2) (ρ.1 1 6)) 1 (((smI (ρ.1 2) (ρ.1 1 6)) + ρ.1 1 10) - (gR ρ (smI (ρ.1 2) (ρ.1 1 6)) 0 ((smI (ρ.1 2) (ρ.1 1 6)) + ρ.1 1 10)))) ∧ σ'.1 105 2 = (gR ρ (smI (ρ.1 2) (ρ.1 1 6)) 2 (((smI (ρ.1 2) (ρ.1 1 6)) + ρ.1 1 10) - (gR ρ (smI (ρ.1 2) (ρ.1 1 6)) 0 ((smI (ρ.1 2) (ρ.1 1 6)) + ρ.1 1 10)) - (gR ρ (smI (ρ.1 2) (ρ.1 1 6)) 1 (((smI (ρ.1 2) (ρ.1 1 6)) + ρ.1 1 10) - (gR ρ (smI (ρ.1 2) (ρ.1 1 6)) 0 ((smI (ρ.1 2) (ρ.1 1 6)) + ρ.1 1 10))))))) ∧ Fr [104, 105] σ σ')) := by
  refine e_iconst (pc' := 1) dX11_findGood_0 rfl ?_
  refine e_istore_n (pc' := 2) (L' := [some (rv 88), some (iv 0), none, none, none, none, none, none, none]) dX11_findGood_1 rfl (by decide) rfl ?_
  refine e_iload_n (pc' := 3) dX11_findGood_2 rfl rfl ?_
  refine e_iconst (pc' := 4) dX11_findGood_3 rfl ?_
  refine e_icmpI (pc' := 7) (t := 78) dX11_findGood_4 (by decide) rfl ⟨by omega, by omega⟩ ⟨by omega, by omega⟩ (fun c2_1 => absurd (show 3 ≤ (0 : Int) from c2_1) (by decide)) (fun _ => ?_)
  refine e_iconst (pc' := 8) dX11_findGood_7 rfl ?_
  refine e_istore_n (pc' := 9) (L' := [some (rv 88), some (iv 0), some (iv 0), none, none, none, none, none, none]) dX11_findGood_8 rfl (by decide) rfl ?_
  refine l_gdA h hR 0 (by decide) (fun τ1 z2 z3 z4 hI1 hF1 => ?_) 62 0 σ _ _ (by decide) (by decide) (by decide) (fun v x p q r s t => absurd t (by omega)) Fr.rf
  refine e_iinc (pc' := 75) (L' := [some (rv 88), some (iv 1), z2, z3, z4, none, none, none, none]) dX11_findGood_72 rfl rfl (by decide) rfl ?_
  refine e_goto (pc' := 2) dX11_findGood_75 (by decide) ?_
  refine e_iload_n (pc' := 3) dX11_findGood_2 rfl rfl ?_
  refine e_iconst (pc' := 4) dX11_findGood_3 rfl ?_
  refine e_icmpI (pc' := 7) (t := 78) dX11_findGood_4 (by decide) rfl ⟨by omega, by omega⟩ ⟨by omega, by omega⟩ (fun c2_1 => absurd (show 3 ≤ (1 : Int) from c2_1) (by decide)) (fun _ => ?_)
  refine e_iconst (pc' := 8) dX11_findGood_7 rfl ?_
  refine e_istore_n (pc' := 9) (L' := [some (rv 88), some (iv 1), some (iv 0), z3, z4, none, none, none, none]) dX11_findGood_8 rfl (by decide) rfl ?_
  refine l_gdA h hR 1 (by decide) (fun τ2 z2 z3 z4 hI2 hF2 => ?_) 62 0 τ1 _ _ (by decide) (by decide) (by decide) (fun v x p q r s t => hI1 v x p q r s (by omega)) hF1
  refine e_iinc (pc' := 75) (L' := [some (rv 88), some (iv 2), z2, z3, z4, none, none, none, none]) dX11_findGood_72 rfl rfl (by decide) rfl ?_
  refine e_goto (pc' := 2) dX11_findGood_75 (by decide) ?_
  refine e_iload_n (pc' := 3) dX11_findGood_2 rfl rfl ?_
  refine e_iconst (pc' := 4) dX11_findGood_3 rfl ?_
  refine e_icmpI (pc' := 7) (t := 78) dX11_findGood_4 (by decide) rfl ⟨by omega, by omega⟩ ⟨by omega, by omega⟩ (fun c2_1 => absurd (show 3 ≤ (2 : Int) from c2_1) (by decide)) (fun _ => ?_)
  refine e_iconst (pc' := 8) dX11_findGood_7 rfl ?_
  refine e_istore_n (pc' := 9) (L' := [some (rv 88), some (iv 2), some (iv 0), z3, z4, none, none, none, none]) dX11_findGood_8 rfl (by decide) rfl ?_
  refine l_gdA h hR 2 (by decide) (fun τ3 z2 z3 z4 hI3 hF3 => ?_) 62 0 τ2 _ _ (by decide) (by decide) (by decide) (fun v x p q r s t => hI2 v x p q r s (by omega)) hF2
  refine e_iinc (pc' := 75) (L' := [some (rv 88), some (iv 3), z2, z3, z4, none, none, none, none]) dX11_findGood_72 rfl rfl (by decide) rfl ?_
  refine e_goto (pc' := 2) dX11_findGood_75 (by decide) ?_
  refine e_iload_n (pc' := 3) dX11_findGood_2 rfl rfl ?_
  refine e_iconst (pc' := 4) dX11_findGood_3 rfl ?_
  refine e_icmpI (pc' := 7) (t := 78) dX11_findGood_4 (by decide) rfl ⟨by omega, by omega⟩ ⟨by omega, by omega⟩ (fun _ => ?_) (fun c2_1 => absurd (show 3 ≤ (3 : Int) by decide) c2_1)
  have hM3 : MdI τ3 ρ 1 := h.fr (hF3 89 (by decide)).1 (hF3 100 (by decide)).1 (by have q := (hF3 88 (by decide)).1; unfold KA; rw [q]; exact ⟨rfl, rfl, rfl⟩) (RtI.fr h.2.2.2.2.2.2.1 (hF3 96 (by decide)).2)
  have hp55 : τ3.1 89 55 = ρ.1 1 10 := by rw [(hF3 89 (by decide)).1]; exact hR.1.2.1
  have hcor := smI_5 (f := ρ.1 2) (M := 12) (by decide) h.1.1 (fun g a c => h.1.2.2.2.2.2.2.2.2.2.2.1 g a (by have := h.1.1; omega))
  have h10 := h.1.2.2.2.2.1
  refine e_aload_n (pc' := 79) dX11_findGood_78 rfl rfl ?_
  refine e_cv0i (pc' := 82) dX11_findGood_79 rfl k_11_236 h_88 rfl (Nat.le_of_ble_eq_true rfl) rfl rfl ⟨rfl, rfl⟩ ⟨Nat.zero_le _, Nat.zero_le _⟩ (s_m_allCoin hM3) ?_
  intro r σ' hr; rw [hr.1, hr.2]; clear hr
  refine e_istore_n (pc' := 83) (L' := [some (rv 88), some (iv (smI (ρ.1 2) (ρ.1 1 6))), z2, z3, z4, none, none, none, none]) dX11_findGood_82 rfl (by decide) rfl ?_
  refine e_iload_n (pc' := 84) dX11_findGood_83 rfl rfl ?_
  refine e_aload_n (pc' := 85) dX11_findGood_84 rfl rfl ?_
  refine e_getR (pc' := 88) dX11_findGood_85 rfl f_11_7 h_88 rfl ?_
  refine e_bipush (pc' := 90) (z := 55) dX11_findGood_88 rfl (by decide) ?_
  refine e_iald (pc' := 91) (v := (ρ.1 1 10)) dX11_findGood_90 rfl h_89 (by decide) (by omega) (by omega) hp55 ?_
  refine e_iadd (pc' := 92) dX11_findGood_91 rfl ?_
  refine e_istore_n (pc' := 93) (L' := [some (rv 88), some (iv (smI (ρ.1 2) (ρ.1 1 6))), some (iv ((smI (ρ.1 2) (ρ.1 1 6)) + (ρ.1 1 10))), z3, z4, none, none, none, none]) dX11_findGood_92 rfl (by decide) rfl ?_
  refine e_iconst (pc' := 94) dX11_findGood_93 rfl ?_
  refine e_istore_n (pc' := 95) (L' := [some (rv 88), some (iv (smI (ρ.1 2) (ρ.1 1 6))), some (iv ((smI (ρ.1 2) (ρ.1 1 6)) + (ρ.1 1 10))), some (iv (-1)), z4, none, none, none, none]) dX11_findGood_94 rfl (by decide) rfl ?_
  refine e_iconst (pc' := 96) dX11_findGood_95 rfl ?_
  refine e_istore (pc' := 98) (L' := [some (rv 88), some (iv (smI (ρ.1 2) (ρ.1 1 6))), some (iv ((smI (ρ.1 2) (ρ.1 1 6)) + (ρ.1 1 10))), some (iv (-1)), some (iv 0), none, none, none, none]) dX11_findGood_96 rfl (by decide) rfl ?_
  exact l_gA h hR (smI (ρ.1 2) (ρ.1 1 6)) ((smI (ρ.1 2) (ρ.1 1 6)) + ρ.1 1 10) ⟨by omega, by omega⟩ ⟨by omega, by omega⟩ 62 0 (-1) τ3 _ _ _ _ (by decide) (by decide) (by decide) ⟨hF3.mono (by decide), (fun v x p q r s t => hI3 v x p q r s (by omega))⟩ ⟨by decide, (fun a b c p q => absurd q (by unfold gP at p; unfold DnS; omega)), Or.inl ⟨rfl, (fun a b c p q => by unfold gP at p; unfold DnS at q; omega)⟩⟩

set_option maxHeartbeats 4000000 in
set_option maxRecDepth 100000 in
theorem s_m_good {X : AX} {d : Nat} {σ ρ : SG} (h : MdI σ ρ 1) (hR : MrR (σ.1 89) ρ 1) (k : Int) (hk : rg k) : Ev X 0 0 (d + 3) mX11_good 0 [some (rv 88), some (iv k), none] [] σ (QI (fun r σ' => r = (if k = -1 then GW ρ (smI (ρ.1 2) (ρ.1 1 6)) 0 ((smI (ρ.1 2) (ρ.1 1 6)) + ρ.1 1 10) else if 0 ≤ k ∧ k < (ρ.1 1 7) then rowW (gR ρ (smI (ρ.1 2) (ρ.1 1 6)) 0 ((smI (ρ.1 2) (ρ.1 1 6)) + ρ.1 1 10)) (gR ρ (smI (ρ.1 2) (ρ.1 1 6)) 1 (((smI (ρ.1 2) (ρ.1 1 6)) + ρ.1 1 10) - (gR ρ (smI (ρ.1 2) (ρ.1 1 6)) 0 ((smI (ρ.1 2) (ρ.1 1 6)) + ρ.1 1 10)))) (gR ρ (smI (ρ.1 2) (ρ.1 1 6)) 2 (((smI (ρ.1 2) (ρ.1 1 6)) + ρ.1 1 10) - (gR ρ (smI (ρ.1 2) (ρ.1 1 6)) 0 ((smI (ρ.1 2) (ρ.1 1 6)) + ρ.1 1 10)) - (gR ρ (smI (ρ.1 2) (ρ.1 1 6)) 1 (((smI (ρ.1 2) (ρ.1 1 6)) + ρ.1 1 10) - (gR ρ (smI (ρ.1 2) (ρ.1 1 6)) 0 ((smI (ρ.1 2) (ρ.1 1 6)) + ρ.1 1 10)))))) k else -10) ∧ Fr [104, 105] σ σ' ∧ KA σ σ' ∧ MdI σ' ρ 1)) := by
  have ho := h.1
  have hG := ho.1
  have hW := ho.2.1
  obtain ⟨hk1, hk2⟩ := hk
  refine e_iload_n (pc' := 1) dX11_good_0 rfl rfl ?_
  refine e_iconst (pc' := 2) dX11_good_1 rfl ?_
  refine e_icmpI (pc' := 5) (t := 16) dX11_good_2 (by decide) rfl ⟨by first | omega | (split <;> omega), by first | omega | (split <;> omega)⟩ ⟨by omega, by omega⟩ (fun (c2_1 : (k : Int) = (-1)) => ?_) (fun (c2_1 : ¬ ((k : Int) = (-1))) => ?_)
  · refine e_aload_n (pc' := 17) dX11_good_16 rfl rfl ?_
    refine e_cv0i (pc' := 20) dX11_good_17 rfl k_11_239 h_88 rfl (Nat.le_of_ble_eq_true rfl) rfl rfl ⟨rfl, rfl⟩ ⟨Nat.zero_le _, Nat.zero_le _⟩ (s_m_findGood h hR) ?_
    rintro r τ1 ⟨hr, hrow, hF1⟩
    have hKn : KA σ τ1 := by have e := (hF1 88 (by decide)).1; unfold KA; rw [e]; exact ⟨rfl, rfl, rfl⟩
    have hM1 : MdI τ1 ρ 1 := h.fr (hF1 89 (by decide)).1 (hF1 100 (by decide)).1 hKn (RtI.fr h.2.2.2.2.2.2.1 (hF1 96 (by decide)).2)
    refine e_istore_n (pc' := 21) (L' := [some (rv 88), some (iv k), some (iv r)]) dX11_good_20 rfl (by decide) rfl ?_
    refine e_iload_n (pc' := 22) dX11_good_21 rfl rfl ?_
    refine e_iconst (pc' := 23) dX11_good_22 rfl ?_
    refine e_icmpI (pc' := 26) (t := 30) dX11_good_23 (by decide) rfl ⟨by first | omega | (split <;> omega), by first | omega | (split <;> omega)⟩ ⟨by omega, by omega⟩ (fun (c4_2 : (k : Int) ≠ (-1)) => ?_) (fun (c4_2 : ¬ ((k : Int) ≠ (-1))) => ?_)
    · refine e_aload_n (pc' := 31) dX11_good_30 rfl rfl ?_
      refine e_getR (pc' := 34) dX11_good_31 rfl f_11_67 h_88 rfl ?_
      refine e_iload_n (pc' := 35) dX11_good_34 rfl rfl ?_
      refine e_iald (pc' := 36) (v := (τ1.1 105 k)) dX11_good_35 rfl h_105 (by decide) (by omega) (by omega) rfl ?_
      exact e_iret dX11_good_36 rfl ⟨rfl, Nat.le_refl _⟩ ⟨_, rfl, by rw [if_neg (by omega), if_pos (by omega)]; (rcases (show k = 0 ∨ k = 1 ∨ k = 2 by omega) with q | q | q <;> subst q <;> first | exact hrow.1 | exact hrow.2.1 | exact hrow.2.2), hF1, hKn, hM1⟩
    · refine e_iload_n (pc' := 27) dX11_good_26 rfl rfl ?_
      refine e_goto (pc' := 36) dX11_good_27 (by decide) ?_
      exact e_iret dX11_good_36 rfl ⟨rfl, Nat.le_refl _⟩ ⟨_, rfl, by rw [if_pos (by omega)]; exact hr, hF1, hKn, hM1⟩
  · refine e_aload_n (pc' := 6) dX11_good_5 rfl rfl ?_
    refine e_iload_n (pc' := 7) dX11_good_6 rfl rfl ?_
    refine e_cv1i (pc' := 10) dX11_good_7 rfl k_11_95 h_88 rfl (Nat.le_of_ble_eq_true rfl) rfl rfl ⟨rfl, rfl⟩ ⟨Nat.zero_le _, Nat.zero_le _⟩ (s_m_isWork k ⟨by omega, by omega⟩ (by rw [h.2.2.1.1.2.1]; exact hW)) ?_
    intro r σ' hr; rw [hr.1, hr.2, h.2.2.1.1.2.1]; clear hr
    refine e_ifI (pc' := 13) (t := 16) dX11_good_10 (by decide) rfl ⟨by first | omega | (split <;> omega), by first | omega | (split <;> omega)⟩ (fun (c4_2 : ((if 0 ≤ k ∧ k < (ρ.1 1 7) then 1 else 0) : Int) ≠ 0) => ?_) (fun (c4_2 : ¬ (((if 0 ≤ k ∧ k < (ρ.1 1 7) then 1 else 0) : Int) ≠ 0)) => ?_)
    · have c4_2n : 0 ≤ k ∧ k < (ρ.1 1 7) := Classical.byContradiction (fun hpq_ => absurd (if_neg hpq_ : (if 0 ≤ k ∧ k < (ρ.1 1 7) then (1 : Int) else 0) = 0) (by have := c4_2; omega))
      refine e_aload_n (pc' := 17) dX11_good_16 rfl rfl ?_
      refine e_cv0i (pc' := 20) dX11_good_17 rfl k_11_239 h_88 rfl (Nat.le_of_ble_eq_true rfl) rfl rfl ⟨rfl, rfl⟩ ⟨Nat.zero_le _, Nat.zero_le _⟩ (s_m_findGood h hR) ?_
      rintro r τ1 ⟨hr, hrow, hF1⟩
      have hKn : KA σ τ1 := by have e := (hF1 88 (by decide)).1; unfold KA; rw [e]; exact ⟨rfl, rfl, rfl⟩
      have hM1 : MdI τ1 ρ 1 := h.fr (hF1 89 (by decide)).1 (hF1 100 (by decide)).1 hKn (RtI.fr h.2.2.2.2.2.2.1 (hF1 96 (by decide)).2)
      refine e_istore_n (pc' := 21) (L' := [some (rv 88), some (iv k), some (iv r)]) dX11_good_20 rfl (by decide) rfl ?_
      refine e_iload_n (pc' := 22) dX11_good_21 rfl rfl ?_
      refine e_iconst (pc' := 23) dX11_good_22 rfl ?_
      refine e_icmpI (pc' := 26) (t := 30) dX11_good_23 (by decide) rfl ⟨by first | omega | (split <;> omega), by first | omega | (split <;> omega)⟩ ⟨by omega, by omega⟩ (fun (c6_3 : (k : Int) ≠ (-1)) => ?_) (fun (c6_3 : ¬ ((k : Int) ≠ (-1))) => ?_)
      · refine e_aload_n (pc' := 31) dX11_good_30 rfl rfl ?_
        refine e_getR (pc' := 34) dX11_good_31 rfl f_11_67 h_88 rfl ?_
        refine e_iload_n (pc' := 35) dX11_good_34 rfl rfl ?_
        refine e_iald (pc' := 36) (v := (τ1.1 105 k)) dX11_good_35 rfl h_105 (by decide) (by omega) (by omega) rfl ?_
        exact e_iret dX11_good_36 rfl ⟨rfl, Nat.le_refl _⟩ ⟨_, rfl, by rw [if_neg (by omega), if_pos (by omega)]; (rcases (show k = 0 ∨ k = 1 ∨ k = 2 by omega) with q | q | q <;> subst q <;> first | exact hrow.1 | exact hrow.2.1 | exact hrow.2.2), hF1, hKn, hM1⟩
      · refine e_iload_n (pc' := 27) dX11_good_26 rfl rfl ?_
        refine e_goto (pc' := 36) dX11_good_27 (by decide) ?_
        exact e_iret dX11_good_36 rfl ⟨rfl, Nat.le_refl _⟩ ⟨_, rfl, by rw [if_pos (by omega)]; exact hr, hF1, hKn, hM1⟩
    · have c4_2n : ¬ (0 ≤ k ∧ k < (ρ.1 1 7)) := fun hpq_ => absurd (if_pos hpq_ : (if 0 ≤ k ∧ k < (ρ.1 1 7) then (1 : Int) else 0) = 1) (by have := c4_2; omega)
      refine e_bipush (pc' := 15) (z := (-10)) dX11_good_13 rfl (by decide) ?_
      exact e_iret dX11_good_15 rfl ⟨rfl, Nat.le_refl _⟩ ⟨_, rfl, by rw [if_neg (by omega), if_neg (by omega)], Fr.rf, KA.rf, h⟩

set_option maxHeartbeats 4000000 in
set_option maxRecDepth 100000 in
theorem s_m_lost {X : AX} {d : Nat} {σ ρ : SG} (h : MdI σ ρ 1) (hR : MrR (σ.1 89) ρ 1) : Ev X 0 0 (d + 8) mX11_lost 0 [some (rv 88)] [] σ (QI (fun r σ' => r = GW ρ (smI (ρ.1 2) (ρ.1 1 6)) 0 ((smI (ρ.1 2) (ρ.1 1 6)) + ρ.1 1 10) - smI (fun g => bfS ρ 1 g) (ρ.1 1 6) ∧ Fr [88, 92, 93, 94, 95, 96, 97, 98, 99, 104, 105] σ σ' ∧ KA σ σ' ∧ MdI σ' ρ 1)) := by
  refine e_aload_n (pc' := 1) dX11_lost_0 rfl rfl ?_
  refine e_cv0i (pc' := 4) dX11_lost_1 rfl k_11_239 h_88 rfl (Nat.le_of_ble_eq_true rfl) rfl rfl ⟨rfl, rfl⟩ ⟨Nat.zero_le _, Nat.zero_le _⟩ (s_m_findGood h hR) ?_
  rintro r τ1 ⟨hr, hrow, hF1⟩
  have hKn : KA σ τ1 := by have e := (hF1 88 (by decide)).1; unfold KA; rw [e]; exact ⟨rfl, rfl, rfl⟩
  have hM1 : MdI τ1 ρ 1 := h.fr (hF1 89 (by decide)).1 (hF1 100 (by decide)).1 hKn (RtI.fr h.2.2.2.2.2.2.1 (hF1 96 (by decide)).2)
  refine e_aload_n (pc' := 5) dX11_lost_4 rfl rfl ?_
  refine e_cv0i (pc' := 8) dX11_lost_5 rfl k_11_217 h_88 rfl (Nat.le_of_ble_eq_true rfl) rfl rfl ⟨rfl, rfl⟩ ⟨Nat.zero_le _, Nat.zero_le _⟩ (s_m_allNow hM1) ?_
  rintro r2 τ2 ⟨hr2, hF2, hK2, hM2⟩
  refine e_isub (pc' := 9) dX11_lost_8 rfl ?_
  exact e_iret dX11_lost_9 rfl ⟨rfl, Nat.le_refl _⟩ ⟨_, rfl, by rw [hr, hr2], (hF1.mono (by decide)).tr (hF2.mono (by decide)), hKn.tr hK2, hM2⟩
