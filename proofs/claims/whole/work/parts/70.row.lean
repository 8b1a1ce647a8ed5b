/-! a row of gifts changed: order of hands, what one has by it, bounds -/
theorem seeS_comm (t : ST) (a c : Int) : seeS (seeS t a) c = seeS (seeS t c) a := by
  unfold seeS
  by_cases ha : 1 ≤ a ∧ a ≤ 12
  · by_cases hc : 1 ≤ c ∧ c ≤ 12
    · rw [if_pos ha, if_pos hc, if_pos hc, if_pos ha]
      dsimp only
      refine Prod.ext (by show t.1 + a + c = t.1 + c + a; omega) (Prod.ext rfl (Prod.ext (by show max (max t.2.2.1 a) c = max (max t.2.2.1 c) a; omega) (Prod.ext ?_ ?_)))
      · show (if (if t.2.2.2.1 = 0 then a else min t.2.2.2.1 a) = 0 then c else min (if t.2.2.2.1 = 0 then a else min t.2.2.2.1 a) c) = (if (if t.2.2.2.1 = 0 then c else min t.2.2.2.1 c) = 0 then a else min (if t.2.2.2.1 = 0 then c else min t.2.2.2.1 c) a)
        by_cases h0 : t.2.2.2.1 = 0
        · rw [if_pos h0, if_pos h0, if_neg (by omega), if_neg (by omega)]; omega
        · rw [if_neg h0, if_neg h0, if_neg (by omega), if_neg (by omega)]; omega
      · show t.2.2.2.2 + Int64.ofInt (rootZ a) + Int64.ofInt (rootZ c) = t.2.2.2.2 + Int64.ofInt (rootZ c) + Int64.ofInt (rootZ a)
        rw [Int64.add_assoc, Int64.add_assoc, Int64.add_comm (Int64.ofInt (rootZ a))]
    · rw [if_pos ha, if_neg hc, if_neg hc, if_pos ha]
  · by_cases hc : 1 ≤ c ∧ c ≤ 12
    · rw [if_neg ha, if_pos hc, if_neg ha]
    · rw [if_neg ha, if_neg hc, if_neg ha]
theorem sa_lt {f f' : Int → Int} {w g : Int} (hf : ∀ j : Int, 0 ≤ j → ¬ j = g → f' (j * 3 + w) = f (j * 3 + w)) (hg : 0 ≤ g) : ∀ n : Nat, (n : Int) ≤ g → saS f' w (-1) n = saS f w g n
  | 0, _ => rfl
  | n + 1, h => by
    show (if (n : Int) = -1 then _ else seeS (saS f' w (-1) n) (f' ((n : Int) * 3 + w))) = (if (n : Int) = g then _ else seeS (saS f w g n) (f ((n : Int) * 3 + w)))
    rw [if_neg (by omega), if_neg (by omega), sa_lt hf hg n (by omega), hf n (by omega) (by omega)]
theorem sa_move {f f' : Int → Int} {w g x : Int} (hx : f' (g * 3 + w) = x) (hf : ∀ j : Int, 0 ≤ j → ¬ j = g → f' (j * 3 + w) = f (j * 3 + w)) (hg : 0 ≤ g) : ∀ n : Nat, g < (n : Int) → saS f' w (-1) n = seeS (saS f w g n) x
  | 0, h => absurd h (by omega)
  | n + 1, h => by
    show (if (n : Int) = -1 then _ else seeS (saS f' w (-1) n) (f' ((n : Int) * 3 + w))) = seeS (if (n : Int) = g then saS f w g n else seeS (saS f w g n) (f ((n : Int) * 3 + w))) x
    rw [if_neg (by omega)]
    by_cases e : (n : Int) = g
    · rw [if_pos e, sa_lt hf hg n (by omega), e, hx]
    · rw [if_neg e, sa_move hx hf hg n (by omega), hf n (by omega) e, seeS_comm]
theorem gU_ne {ρ : SG} {b k : Nat} {g : Int} {t : BR} (h : ¬ k = b + 5) : (gU ρ b g t).1 k = ρ.1 k := by
  funext j
  show (if k = b + 5 then _ else ρ.1 k j) = _
  rw [if_neg h]
theorem gU_at (ρ : SG) (b : Nat) (g : Int) (t : BR) : (gU ρ b g t).1 (b + 5) = fun j => if g * 3 ≤ j ∧ j < g * 3 + 3 then rowW t.2.1 t.2.2.1 t.2.2.2 (j - g * 3) else ρ.1 (b + 5) j := by
  funext j
  show (if b + 5 = b + 5 then _ else _) = _
  rw [if_pos rfl]
def rowOK (ρ : SG) (b : Nat) (g x y z : Int) : Prop := (0 ≤ x ∧ 0 ≤ y ∧ 0 ≤ z ∧ x + y + z ≤ ρ.1 (b + 1) g) ∧ (ρ.1 b 7 ≤ 0 → x = 0) ∧ (ρ.1 b 7 ≤ 1 → y = 0) ∧ (ρ.1 b 7 ≤ 2 → z = 0)
theorem row_w {x y z w : Int} (hw : 0 ≤ w ∧ w < 3) : rowW x y z w = x ∧ w = 0 ∨ rowW x y z w = y ∧ w = 1 ∨ rowW x y z w = z ∧ w = 2 := by
  rcases (show w = 0 ∨ w = 1 ∨ w = 2 by omega) with rfl | rfl | rfl
  · exact Or.inl ⟨rfl, rfl⟩
  · exact Or.inr (Or.inl ⟨rfl, rfl⟩)
  · exact Or.inr (Or.inr ⟨rfl, rfl⟩)
theorem gU_gw (ρ : SG) (b : Nat) (g : Int) (q x y z : Int) {h w : Int} (hw : 0 ≤ w ∧ w < 3) : (gU ρ b g (q, x, y, z)).1 (b + 5) (h * 3 + w) = if h = g then rowW x y z w else ρ.1 (b + 5) (h * 3 + w) := by
  rw [gU_at]
  dsimp only
  by_cases e : h = g
  · rw [if_pos e, if_pos (by omega), show h * 3 + w - g * 3 = w by omega]
  · rw [if_neg e, if_neg (by omega)]
theorem gv_gU (ρ : SG) (b : Nat) (g : Int) (q x y z h : Int) : gv ((gU ρ b g (q, x, y, z)).1 (b + 5)) h = if h = g then x + y + z else gv (ρ.1 (b + 5)) h := by
  unfold gv
  rw [gU_gw ρ b g q x y z (w := 0) ⟨by decide, by decide⟩, gU_gw ρ b g q x y z (w := 1) ⟨by decide, by decide⟩, gU_gw ρ b g q x y z (w := 2) ⟨by decide, by decide⟩]
  split <;> rfl
theorem ScOK_gU {ρ : SG} {b : Nat} (ho : ScOK ρ b) {g q x y z : Int} (hg : 0 ≤ g ∧ g < 5) (hr : rowOK ρ b g x y z) : ScOK (gU ρ b g (q, x, y, z)) b := by
  have hc := ho.2.2.2.2.2.2.2.2.2.2.1 g hg.1 hg.2
  have h1 := hr.1
  unfold ScOK RlOK at *
  rw [gU_ne (k := b) (by omega), gU_ne (k := b + 2) (by omega), gU_ne (k := b + 3) (by omega), gU_ne (k := b + 4) (by omega), gU_ne (k := b + 1) (by omega), gU_ne (k := b + 7) (by omega), gU_ne (k := b + 10) (by omega), gU_ne (k := b + 13) (by omega), gU_ne (k := b + 7 + 2) (by omega), gU_ne (k := b + 10 + 2) (by omega), gU_ne (k := b + 13 + 2) (by omega)]
  refine ⟨ho.1, ho.2.1, ho.2.2.1, ho.2.2.2.1, ho.2.2.2.2.1, ho.2.2.2.2.2.1, ?_, ho.2.2.2.2.2.2.2⟩
  intro j a c
  rw [gU_at]
  dsimp only
  split
  · next hj =>
    rcases row_w (x := x) (y := y) (z := z) (w := j - g * 3) ⟨by omega, by omega⟩ with e | e | e <;> rw [e.1] <;> omega
  · exact ho.2.2.2.2.2.2.1 j a c
theorem ScX_gU {ρ : SG} {b : Nat} (hX : ScX ρ b) {g q x y z : Int} (hg : 0 ≤ g ∧ g < ρ.1 b 6) (hr : rowOK ρ b g x y z) : ScX (gU ρ b g (q, x, y, z)) b := by
  obtain ⟨h1, h2, h3, h4⟩ := hr
  unfold ScX
  rw [gU_ne (k := b) (by omega), gU_ne (k := b + 3) (by omega), gU_ne (k := b + 4) (by omega), gU_ne (k := b + 1) (by omega)]
  refine ⟨?_, hX.2.1, ?_⟩
  · intro h w a1 a2 a3 a4 hor
    rw [gU_gw ρ b g q x y z ⟨a3, a4⟩]
    split
    · next e => rcases row_w (x := x) (y := y) (z := z) (w := w) ⟨a3, a4⟩ with e | e | e <;> rw [e.1] <;> omega
    · exact hX.1 h w a1 a2 a3 a4 hor
  · intro h a1 a2
    rw [gv_gU]
    split
    · next e => rw [e]; exact h1.2.2.2
    · exact hX.2.2 h a1 a2
theorem tlR_gU {ρ : SG} {b : Nat} {g : Int} {t : BR} (s : ST) : tlR (gU ρ b g t) b s = tlR ρ b s := by
  have e : rcN b (ρ.1 b 9) = b + 7 + 3 * (ρ.1 b 9).toNat := rfl
  unfold tlR
  rw [gU_ne (k := b) (by omega), gU_ne (k := rcN b (ρ.1 b 9)) (by omega), gU_ne (k := rcN b (ρ.1 b 9) + 2) (by omega)]
theorem gf_gU {ρ : SG} {b : Nat} {g q x y z : Int} (hG : 0 ≤ ρ.1 b 6) (hg : 0 ≤ g ∧ g < ρ.1 b 6) {w : Int} (hw : 0 ≤ w ∧ w < 3) (hwk : w < ρ.1 b 7) : gfS (gU ρ b g (q, x, y, z)) b w = gfS ρ b w - ρ.1 (b + 5) (g * 3 + w) + rowW x y z w := by
  unfold gfS
  rw [gU_ne (k := b) (by omega), if_pos hwk, if_pos hwk]
  unfold smI
  have key : ∀ n : Nat, sm (fun h => (gU ρ b g (q, x, y, z)).1 (b + 5) (h * 3 + w)) n = sm (fun h => ρ.1 (b + 5) (h * 3 + w)) n + (if g < (n : Int) then rowW x y z w - ρ.1 (b + 5) (g * 3 + w) else 0) := by
    intro n
    induction n with
    | zero => show (0 : Int) = 0 + _; rw [if_neg (by omega)]; rfl
    | succ n ih =>
      show sm _ n + (gU ρ b g (q, x, y, z)).1 (b + 5) ((n : Int) * 3 + w) = sm _ n + ρ.1 (b + 5) ((n : Int) * 3 + w) + _
      rw [ih, gU_gw ρ b g q x y z hw]
      by_cases e : (n : Int) = g
      · rw [if_pos e, if_neg (by omega), if_pos (by omega), e]; omega
      · rw [if_neg e]
        by_cases l : g < (n : Int)
        · rw [if_pos l, if_pos (by omega)]; omega
        · rw [if_neg l, if_neg (by omega)]; omega
  rw [key, if_pos (by omega)]
  omega
theorem wd_gU {ρ : SG} {b : Nat} {g q x y z : Int} (hg : 0 ≤ g ∧ g < ρ.1 b 6) {w : Int} (hw : 0 ≤ w ∧ w < 3) : wdS (gU ρ b g (q, x, y, z)) b w = wbS ρ b g w (rowW x y z w) := by
  unfold wdS wbS
  rw [gU_ne (k := b) (by omega)]
  split
  · rw [tlR_gU]
    unfold saI
    rw [sa_move (f := ρ.1 (b + 5)) (g := g) (x := rowW x y z w) (by rw [gU_gw ρ b g q x y z hw, if_pos rfl]) (fun j _ hj => by rw [gU_gw ρ b g q x y z hw, if_neg hj]) hg.1 (ρ.1 b 6).toNat (by omega)]
  · rfl
theorem adS_z {md p : Int} {u : Int → Int} (hp : 0 ≤ p ∧ p ≤ 200) (hu : ∀ w, 0 ≤ w → w < 3 → 0 ≤ u w ∧ u w ≤ 99) {w : Int} (hw : 0 ≤ w ∧ w < 3) (h : u w = 0) : adS md p u w = 0 := by
  have h0 := hu 0 (by decide) (by decide)
  have h1 := hu 1 (by decide) (by decide)
  have h2 := hu 2 (by decide) (by decide)
  unfold adS
  split
  · exact h
  · split
    · unfold shS
      rw [h]
      split
      · rw [Int.zero_mul, Int.zero_ediv]
      · rfl
    · split
      · rcases (show w = 0 ∨ w = 1 ∨ w = 2 by omega) with rfl | rfl | rfl
        · rw [if_pos rfl]; omega
        · rw [if_neg (by decide), if_pos rfl]; omega
        · rw [if_neg (by decide), if_neg (by decide)]; omega
      · have := bN_ok hp.1 hp.2 h0.1 h1.1 h2.1 3
        rw [h]
        omega
theorem bf_bv {ρ : SG} {b : Nat} (ho : ScOK ρ b) (hX : ScX ρ b) {g q x y z : Int} (hg : 0 ≤ g ∧ g < ρ.1 b 6) (hr : rowOK ρ b g x y z) : bfS (gU ρ b g (q, x, y, z)) b g = bvS ρ b g x y z := by
  have hG := ho.1
  obtain ⟨r1, r2, r3, r4⟩ := hr
  unfold bfS bvS ktO hvO
  rw [gv_gU, if_pos rfl, gU_ne (k := b) (by omega), gU_ne (k := b + 1) (by omega), gU_ne (k := b + 2) (by omega), gU_ne (k := b + 3) (by omega), gU_ne (k := b + 4) (by omega)]
  have hwd : ∀ w, 0 ≤ w → w < 3 → adS (ρ.1 b 11) (ρ.1 b 10) (wdS (gU ρ b g (q, x, y, z)) b) w = adS (ρ.1 b 11) (ρ.1 b 10) (fun w => wbS ρ b g w (rowW x y z w)) w := adS_cg (wd_gU hg ⟨by decide, by decide⟩) (wd_gU hg ⟨by decide, by decide⟩) (wd_gU hg ⟨by decide, by decide⟩)
  have hgf : ∀ w, 0 ≤ w → w < 3 → gfS (gU ρ b g (q, x, y, z)) b w = gfS ρ b w - ρ.1 (b + 5) (g * 3 + w) + rowW x y z w := by
    intro w a c
    by_cases hk : w < ρ.1 b 7
    · exact gf_gU hG.1 hg ⟨a, c⟩ hk
    · have e1 : gfS (gU ρ b g (q, x, y, z)) b w = 0 := by unfold gfS; rw [gU_ne (k := b) (by omega), if_neg hk]
      have e2 : gfS ρ b w = 0 := by unfold gfS; rw [if_neg hk]
      rw [e1, e2, hX.1 g w hg.1 (by omega) a c (Or.inl (by omega))]
      rcases row_w (x := x) (y := y) (z := z) (w := w) ⟨a, c⟩ with e | e | e <;> rw [e.1] <;> omega
  unfold hvS
  dsimp only
  rw [hwd 0 (by decide) (by decide), hwd 1 (by decide) (by decide), hwd 2 (by decide) (by decide), hgf 0 (by decide) (by decide), hgf 1 (by decide) (by decide), hgf 2 (by decide) (by decide), show ρ.1 (b + 1) g - (x + y + z) = ρ.1 (b + 1) g - x - y - z by omega]
theorem wsM_rg {f s : Int} (hf : 0 ≤ f ∧ f ≤ 200) (hs : 0 ≤ s) : ∀ n : Nat, 0 ≤ wsM f s n ∧ wsM f s n ≤ 200 * n
  | 0 => ⟨Int.le_refl _, by show (0 : Int) ≤ 200 * 0; decide⟩
  | n + 1 => by
    have ih := wsM_rg hf hs n
    have q := Int.mul_nonneg hs (show (0 : Int) ≤ n by omega)
    show 0 ≤ wsM f s n + (if f - s * n ≤ 0 then 0 else f - s * n) ∧ wsM f s n + (if f - s * n ≤ 0 then 0 else f - s * n) ≤ 200 * ((n + 1 : Nat) : Int)
    split <;> omega
theorem wcS_rg {bar f s a : Int} (hf : 0 ≤ f ∧ f ≤ 200) (hs : 0 ≤ s) (ha : 0 ≤ a) : 0 ≤ wcS bar f s a ∧ wcS bar f s a ≤ 12000 := by
  rw [wcS_ws hf.1 hs ha]
  split
  · decide
  · have := wsM_rg hf hs (min a 60).toNat
    omega
theorem hvO_rg {ρ : SG} {b : Nat} (ho : ScOK ρ b) {a : Int → Int} (ha : ∀ w, 0 ≤ w → w < 3 → 0 ≤ a w) {kt g : Int} (hk : 0 ≤ kt ∧ kt ≤ 12) (hg : 0 ≤ g ∧ g < 5) : 0 ≤ hvO ρ b a kt g ∧ hvO ρ b a kt g ≤ 100000 := by
  have f := ho.2.2.2.2.2.2.2.2.1
  have s := ho.2.2.2.2.2.2.2.2.2.1
  have k := ho.2.2.1
  have w0 := wcS_rg (bar := ρ.1 (b + 2) 0) (f (g * 3 + 0) (by omega) (by omega)) (s (g * 3 + 0) (by omega) (by omega)).1 (ha 0 (by decide) (by decide))
  have w1 := wcS_rg (bar := ρ.1 (b + 2) 1) (f (g * 3 + 1) (by omega) (by omega)) (s (g * 3 + 1) (by omega) (by omega)).1 (ha 1 (by decide) (by decide))
  have w2 := wcS_rg (bar := ρ.1 (b + 2) 2) (f (g * 3 + 2) (by omega) (by omega)) (s (g * 3 + 2) (by omega) (by omega)).1 (ha 2 (by decide) (by decide))
  have m1 := Int.mul_nonneg k.1 hk.1
  have m2 := Int.mul_le_mul k.2 hk.2 hk.1 (by decide : (0 : Int) ≤ 99)
  unfold hvO hvS
  omega
theorem sm_one {f : Int → Int} : ∀ n : Nat, (∀ i : Int, 0 ≤ i → i < (n : Int) → 0 ≤ f i ∧ f i ≤ 12) → ∀ g : Int, 0 ≤ g → g < (n : Int) → f g ≤ sm f n
  | 0, _, g, h0, h1 => absurd h1 (by omega)
  | n + 1, h, g, h0, h1 => by
    show f g ≤ sm f n + f n
    have hn := h n (by omega) (by omega)
    by_cases e : g = (n : Int)
    · have := (smI_rg (f := f) (M := 12) (by decide) n (fun i a b => h i a (by omega))).1
      rw [e]; omega
    · have := sm_one n (fun i a b => h i a (by omega)) g h0 (by omega)
      omega
theorem oth_rg {ρ : SG} {b : Nat} (ho : ScOK ρ b) (hX : ScX ρ b) {g : Int} (hg : 0 ≤ g ∧ g < ρ.1 b 6) : ∀ w, 0 ≤ w → w < 3 → 0 ≤ gfS ρ b w - ρ.1 (b + 5) (g * 3 + w) ∧ gfS ρ b w - ρ.1 (b + 5) (g * 3 + w) ≤ 100 := by
  intro w a c
  have hG := ho.1
  have gi := ho.2.2.2.2.2.2.1
  unfold gfS
  by_cases hk : w < ρ.1 b 7
  · rw [if_pos hk]
    have r : ∀ i : Int, 0 ≤ i → i < ((ρ.1 b 6).toNat : Int) → 0 ≤ (fun g => ρ.1 (b + 5) (g * 3 + w)) i ∧ (fun g => ρ.1 (b + 5) (g * 3 + w)) i ≤ 12 := fun i p q => gi (i * 3 + w) (by omega) (by omega)
    have s1 := smI_rg (f := fun g => ρ.1 (b + 5) (g * 3 + w)) (M := 12) (by decide) (ρ.1 b 6).toNat r
    have s2 := sm_one (f := fun g => ρ.1 (b + 5) (g * 3 + w)) (ρ.1 b 6).toNat r g hg.1 (by omega)
    have s3 := gi (g * 3 + w) (by omega) (by omega)
    unfold smI
    omega
  · rw [if_neg hk, hX.1 g w hg.1 (by omega) a c (Or.inl (by omega))]
    decide
theorem ch_ok {ρ : SG} {b : Nat} (ho : ScOK ρ b) (hX : ScX ρ b) {g : Int} (hg : 0 ≤ g ∧ g < ρ.1 b 6) : ChOK ρ b g := by
  have hG := ho.1
  have hc := ho.2.2.2.2.2.2.2.2.2.2.1 g hg.1 (by omega)
  have hot := oth_rg ho hX hg
  refine ⟨hot, ?_, ?_⟩
  · intro x y z hx hy hz hs
    unfold bvS
    have := hvO_rg ho (a := fun w => ((gfS ρ b w - ρ.1 (b + 5) (g * 3 + w)) + rowW x y z w) + adS (ρ.1 b 11) (ρ.1 b 10) (fun w => wbS ρ b g w (rowW x y z w)) w) (fun w p q => by
      have h1 := hot w p q
      have h2 := adS_rg (md := ρ.1 b 11) ho.2.2.2.2.1 (u := fun w => wbS ρ b g w (rowW x y z w)) (fun w _ _ => wbS_rg ρ b g w _) w p q
      rcases row_w (x := x) (y := y) (z := z) (w := w) ⟨p, q⟩ with e | e | e <;> rw [e.1] <;> omega) (kt := ρ.1 (b + 1) g - x - y - z) (g := g) ⟨by omega, by omega⟩ ⟨hg.1, by omega⟩
    omega
  · have h3 := hX.2.2 g hg.1 (by omega)
    have h4 := gv_rg ho.2.2.2.2.2.2.1 hg.1 (show g < 5 by omega)
    unfold bfS ktO
    have := hvO_rg ho (a := fun w => gfS ρ b w + adS (ρ.1 b 11) (ρ.1 b 10) (wdS ρ b) w) (fun w p q => by
      have h1 := gfS_rg ho w p q
      have h2 := adS_rg (md := ρ.1 b 11) ho.2.2.2.2.1 (fun w _ _ => wdS_rg ρ b w) w p q
      omega) (kt := ρ.1 (b + 1) g - gv (ρ.1 (b + 5)) g) (g := g) ⟨by omega, by omega⟩ ⟨hg.1, by omega⟩
    omega
theorem fdI_inv {f : Int → BR → BR} {P : BR → Prop} : ∀ (n : Nat) (t : BR), (∀ (i : Int) (t : BR), 0 ≤ i → i < (n : Int) → P t → P (f i t)) → P t → P (fdI f n t)
  | 0, _, _, h => h
  | n + 1, t, hf, h => by
    show P (f n (fdI f n t))
    exact hf n _ (by omega) (by omega) (fdI_inv n t (fun i t a b => hf i t a (by omega)) h)
theorem fdZ_inv {f : Int → BR → BR} {P : BR → Prop} {n : Int} {t : BR} (hf : ∀ (i : Int) (t : BR), 0 ≤ i → i < n → P t → P (f i t)) (h : P t) : P (fdZ f n t) := fdI_inv _ t (fun i t a b => hf i t a (by omega)) h
/-- the best row is a row that can be given -/
def beP (ρ : SG) (b : Nat) (g : Int) (t : BR) : Prop := (-1 ≤ t.1 ∧ t.1 ≤ 1000000) ∧ rowOK ρ b g t.2.1 t.2.2.1 t.2.2.2
theorem be_ok {ρ : SG} {b : Nat} (ho : ScOK ρ b) (hX : ScX ρ b) {g : Int} (hg : 0 ≤ g ∧ g < ρ.1 b 6) : beP ρ b g (beS ρ b g) := by
  have hG := ho.1
  have hc := ho.2.2.2.2.2.2.2.2.2.2.1 g hg.1 (by omega)
  have hV := (ch_ok ho hX hg).2.1
  unfold beS bsS
  refine fdZ_inv (P := beP ρ b g) (fun x t x0 x1 ht => ?_) ⟨by decide, ⟨⟨by decide, by decide, by decide, by show 0 + 0 + 0 ≤ ρ.1 (b + 1) g; omega⟩, fun _ => rfl, fun _ => rfl, fun _ => rfl⟩⟩
  unfold bsA
  refine fdZ_inv (P := beP ρ b g) (fun y t y0 y1 ht => ?_) ht
  unfold bsB
  refine fdZ_inv (P := beP ρ b g) (fun z t z0 z1 ht => ?_) ht
  unfold bsC updB
  unfold tp0 at x1
  unfold tp1 at y1
  unfold tp2 at z1
  have hr : rowOK ρ b g x y z := by
    refine ⟨⟨x0, y0, z0, ?_⟩, fun q => ?_, fun q => ?_, fun q => ?_⟩
    · split at x1 <;> split at y1 <;> split at z1 <;> omega
    · rw [if_pos q] at x1; omega
    · rw [if_pos q] at y1; omega
    · rw [if_pos q] at z1; omega
  split
  · have := hV x y z hr.1.1 hr.1.2.1 hr.1.2.2.1 hr.1.2.2.2
    exact ⟨⟨by show -1 ≤ bvS ρ b g x y z; omega, by show bvS ρ b g x y z ≤ 1000000; omega⟩, hr⟩
  · exact ht
def rwN (N : Int → Int) (g x y z : Int) : Int → Int := fun j => if 35 + g * 3 ≤ j ∧ j < 35 + g * 3 + 3 then rowW x y z (j - (35 + g * 3)) else N j
theorem MrP_row {N : Int → Int} {ρ : SG} {b : Nat} (h : MrP N ρ b) {g q x y z : Int} (hg : 0 ≤ g ∧ g < 5) : MrP (rwN N g x y z) (gU ρ b g (q, x, y, z)) b := by
  obtain ⟨⟨h1, h2, h3⟩, h4, h5, h6⟩ := h
  have off : ∀ j : Int, ¬ (35 + g * 3 ≤ j ∧ j < 35 + g * 3 + 3) → rwN N g x y z j = N j := fun j q => if_neg q
  unfold MrP
  rw [gU_ne (k := b) (by omega), gU_ne (k := b + 1) (by omega), gU_ne (k := b + 2) (by omega), gU_ne (k := b + 3) (by omega), gU_ne (k := b + 4) (by omega), off 180 (by omega), off 181 (by omega), off 53 (by omega)]
  refine ⟨⟨h1, h2, h3⟩, fun j a c => by rw [off j (by omega)]; exact h4 j a c, fun j a c => by rw [off (50 + j) (by omega)]; exact h5 j a c, fun j a c => ?_⟩
  have q := h6 j a c
  refine ⟨by rw [off (5 + 2 * j) (by omega)]; exact q.1, by rw [off (6 + 2 * j) (by omega)]; exact q.2.1, ?_⟩
  rw [gU_at]
  unfold rwN
  dsimp only
  by_cases e : g * 3 ≤ j ∧ j < g * 3 + 3
  · rw [if_pos e, if_pos (by omega), show 35 + j - (35 + g * 3) = j - g * 3 by omega]
  · rw [if_neg e, if_neg (by omega)]
    exact q.2.2
theorem RuI_cg {ρ ρ' : SG} {r : Nat} (h : RuI ρ r) (e0 : ρ'.1 r = ρ.1 r) (e1 : ρ'.1 (r + 1) = ρ.1 (r + 1)) (e2 : ρ'.1 (r + 2) = ρ.1 (r + 2)) : RuI ρ' r := by
  unfold RuI
  rw [e0, e1, e2]
  exact h
theorem MrR_row {N : Int → Int} {ρ : SG} {b : Nat} (h : MrR N ρ b) {g q x y z : Int} (hg : 0 ≤ g ∧ g < 5) : MrR (rwN N g x y z) (gU ρ b g (q, x, y, z)) b := by
  obtain ⟨⟨h1, h2, h3⟩, h4⟩ := h
  have off : ∀ j : Int, ¬ (35 + g * 3 ≤ j ∧ j < 35 + g * 3 + 3) → rwN N g x y z j = N j := fun j q => if_neg q
  unfold MrR
  rw [gU_ne (k := b) (by omega), off 54 (by omega), off 55 (by omega), off 56 (by omega)]
  refine ⟨⟨h1, h2, h3⟩, fun u a c => ?_⟩
  have e : rcN b u = b + 7 + 3 * u.toNat := rfl
  obtain ⟨k1, k2, k3⟩ := h4 u a c
  refine ⟨RuI_cg k1 (gU_ne (by omega)) (gU_ne (by omega)) (gU_ne (by omega)), ?_, ?_⟩
  · rw [off (57 + 41 * u) (by omega), gU_ne (k := rcN b u) (by omega)]; exact k2
  · rw [gU_ne (k := rcN b u) (by omega), gU_ne (k := rcN b u + 1) (by omega)]
    intro k p q
    rw [off (57 + 41 * u + 1 + k) (by omega)]
    exact k3 k p q
theorem MdI_row {σ τ ρ : SG} {b : Nat} (h : MdI σ ρ b) {g q x y z : Int} (hg : 0 ≤ g ∧ g < ρ.1 b 6) (hr : rowOK ρ b g x y z) (hN : τ.1 89 = rwN (σ.1 89) g x y z) (h100 : τ.1 100 = σ.1 100) (hK : KA σ τ) (hR : RtI τ) : MdI τ (gU ρ b g (q, x, y, z)) b := by
  obtain ⟨h1, h2, h3, h4, h5, h6, h7, h8⟩ := h
  have hG := h1.1
  unfold MdI
  rw [hN, h100, hK.1, hK.2.1, hK.2.2]
  have off55 : rwN (σ.1 89) g x y z 55 = σ.1 89 55 := if_neg (by omega)
  rw [off55]
  refine ⟨ScOK_gU h1 ⟨hg.1, by omega⟩ hr, ScX_gU h2 hg hr, MrP_row h3 ⟨hg.1, by omega⟩, ?_, h5, h6, hR, h8⟩
  rcases h4 with ⟨a, c⟩ | ⟨a, c⟩
  · exact Or.inl ⟨a, fun t => by rw [tlR_gU]; exact c t⟩
  · exact Or.inr ⟨a, MrR_row c ⟨hg.1, by omega⟩⟩
