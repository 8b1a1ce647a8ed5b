/-- what a scene must be so that its gifts can be added to -/
def rcN (b : Nat) (i : Int) : Nat := b + 7 + 3 * i.toNat
def RlOK (σ : SG) (r : Nat) : Prop := rg (σ.1 r 4) ∧ (0 ≤ σ.1 r 3 ∧ σ.1 r 3 ≤ 40) ∧ ∀ j, 0 ≤ j → j < σ.1 r 3 → -1000 ≤ σ.1 (r + 2) j ∧ σ.1 (r + 2) j ≤ 999999
def ScOK (σ : SG) (b : Nat) : Prop := (0 ≤ σ.1 b 6 ∧ σ.1 b 6 ≤ 5) ∧ (0 ≤ σ.1 b 7 ∧ σ.1 b 7 ≤ 3) ∧ (0 ≤ σ.1 b 8 ∧ σ.1 b 8 ≤ 99) ∧ (0 ≤ σ.1 b 9 ∧ σ.1 b 9 ≤ 2) ∧ (0 ≤ σ.1 b 10 ∧ σ.1 b 10 ≤ 200) ∧ (0 ≤ σ.1 b 11 ∧ σ.1 b 11 ≤ 2) ∧ (∀ j, 0 ≤ j → j < 15 → 0 ≤ σ.1 (b + 5) j ∧ σ.1 (b + 5) j ≤ 12) ∧ (∀ j, 0 ≤ j → j < 3 → 0 ≤ σ.1 (b + 2) j ∧ σ.1 (b + 2) j ≤ 60) ∧ (∀ j, 0 ≤ j → j < 15 → 0 ≤ σ.1 (b + 3) j ∧ σ.1 (b + 3) j ≤ 200) ∧ (∀ j, 0 ≤ j → j < 15 → 0 ≤ σ.1 (b + 4) j ∧ σ.1 (b + 4) j ≤ 50) ∧ (∀ j, 0 ≤ j → j < 5 → 0 ≤ σ.1 (b + 1) j ∧ σ.1 (b + 1) j ≤ 12) ∧ RlOK σ (b + 7) ∧ RlOK σ (b + 10) ∧ RlOK σ (b + 13)
/-- what a rule tells of gifts that are seen so -/
def tlR (σ : SG) (b : Nat) (t : ST) : Int := tlS t (σ.1 (rcN b (σ.1 b 9)) 4) (σ.1 (rcN b (σ.1 b 9) + 2)) (σ.1 (rcN b (σ.1 b 9)) 3)
theorem clS_rg (v : Int64) : 0 ≤ clS v ∧ clS v ≤ 99 := by
  unfold clS
  have h99 : (99 : Int64).toInt = 99 := by decide
  have h00 : (0 : Int64).toInt = 0 := by decide
  have key : ∀ z : Int64, 0 ≤ z.toInt → z.toInt ≤ 99 → 0 ≤ z.toInt32.toInt ∧ z.toInt32.toInt ≤ 99 := by
    intro z h1 h2
    have e : z.toInt32.toInt = z.toInt := by
      rw [Int64.toInt_toInt32]
      exact Int.bmod_eq_of_le (by omega) (by omega)
    omega
  by_cases h1 : v < 99
  · rw [if_pos h1]
    by_cases h2 : v < 0
    · rw [if_pos h2]; exact key 0 (by decide) (by decide)
    · rw [if_neg h2]
      have a1 := Int64.lt_iff_toInt_lt.mp h1
      have a2 : ¬ v.toInt < 0 := fun q => h2 (Int64.lt_iff_toInt_lt.mpr (by rw [h00]; exact q))
      exact key v (by omega) (by omega)
  · rw [if_neg h1, if_neg (by decide)]
    exact key 99 (by decide) (by decide)
theorem tlS_rg (t : ST) (fl : Int) (f : Int → Int) (n : Int) : 0 ≤ tlS t fl f n ∧ tlS t fl f n ≤ 99 := by
  unfold tlS
  split
  · exact clS_rg _
  · decide
/-- sums and heads of what was seen stay small -/
theorem seeS_rg {t : ST} {n : Int} (h : 0 ≤ t.1 ∧ t.1 ≤ 12 * n ∧ 0 ≤ t.2.1 ∧ t.2.1 ≤ n) (c : Int) : 0 ≤ (seeS t c).1 ∧ (seeS t c).1 ≤ 12 * (n + 1) ∧ 0 ≤ (seeS t c).2.1 ∧ (seeS t c).2.1 ≤ n + 1 := by
  unfold seeS
  split
  · refine ⟨?_, ?_, ?_, ?_⟩
    · show 0 ≤ t.1 + c; omega
    · show t.1 + c ≤ _; omega
    · show 0 ≤ t.2.1 + 1; omega
    · show t.2.1 + 1 ≤ _; omega
  · omega
theorem saS_rg (f : Int → Int) (w a : Int) : ∀ n : Nat, 0 ≤ (saS f w a n).1 ∧ (saS f w a n).1 ≤ 12 * n ∧ 0 ≤ (saS f w a n).2.1 ∧ (saS f w a n).2.1 ≤ n
  | 0 => (⟨by decide, by decide, by decide, by decide⟩ : 0 ≤ st0.1 ∧ st0.1 ≤ 12 * ((0 : Nat) : Int) ∧ 0 ≤ st0.2.1 ∧ st0.2.1 ≤ ((0 : Nat) : Int))
  | n + 1 => by
    have h := saS_rg f w a n
    unfold saS
    split
    · refine ⟨h.1, ?_, h.2.2.1, ?_⟩ <;> omega
    · have := seeS_rg h (f ((n : Int) * 3 + w))
      refine ⟨this.1, ?_, this.2.2.1, ?_⟩ <;> omega
def stR (t : ST) : Prop := rg t.1 ∧ rg t.2.1 ∧ rg t.2.2.1 ∧ rg t.2.2.2.1
theorem saI_R (f : Int → Int) (w a : Int) {i : Int} (hi : i ≤ 5) : stR (saI f w a i) := by
  have h1 := saS_rg f w a i.toNat
  have h2 := saS_ok f w a i.toNat
  have h3 : i.toNat ≤ 5 := by omega
  unfold saI
  exact ⟨⟨by omega, by omega⟩, ⟨by omega, by omega⟩, ⟨by have := h2.1; omega, by have := h2.2.1; omega⟩, ⟨by have := h2.2.2.1; omega, by have := h2.2.2.2; omega⟩⟩

theorem s_told_1_0 {X : AX} {d : Nat} {σ : SG} (ho : ScOK σ 1) (h9 : σ.1 1 9 = 0) (t : ST) (hS : SgI σ t) (hR : stR t) : Ev X 0 0 (d + 2) mX9_toldBy 0 [some (rv 37), some (rv 8), none, none] [] σ (QI (fun v σ' => v = tlR σ 1 t ∧ Fr [37, 38] σ σ')) := by
  have hr : RlOK σ 8 := by first | exact ho.2.2.2.2.2.2.2.2.2.2.2.1 | exact ho.2.2.2.2.2.2.2.2.2.2.2.2.1 | exact ho.2.2.2.2.2.2.2.2.2.2.2.2.2
  have e : tlR σ 1 t = tlS t (σ.1 8 4) (σ.1 10) (σ.1 8 3) := by unfold tlR; rw [h9]; rfl
  rw [e]
  exact s_toldBy_8 t hS hR.1 hR.2.1 hR.2.2.1 hR.2.2.2 hr.1 hr.2.1 hr.2.2

theorem s_told_1_1 {X : AX} {d : Nat} {σ : SG} (ho : ScOK σ 1) (h9 : σ.1 1 9 = 1) (t : ST) (hS : SgI σ t) (hR : stR t) : Ev X 0 0 (d + 2) mX9_toldBy 0 [some (rv 37), some (rv 11), none, none] [] σ (QI (fun v σ' => v = tlR σ 1 t ∧ Fr [37, 38] σ σ')) := by
  have hr : RlOK σ 11 := by first | exact ho.2.2.2.2.2.2.2.2.2.2.2.1 | exact ho.2.2.2.2.2.2.2.2.2.2.2.2.1 | exact ho.2.2.2.2.2.2.2.2.2.2.2.2.2
  have e : tlR σ 1 t = tlS t (σ.1 11 4) (σ.1 13) (σ.1 11 3) := by unfold tlR; rw [h9]; rfl
  rw [e]
  exact s_toldBy_11 t hS hR.1 hR.2.1 hR.2.2.1 hR.2.2.2 hr.1 hr.2.1 hr.2.2

theorem s_told_1_2 {X : AX} {d : Nat} {σ : SG} (ho : ScOK σ 1) (h9 : σ.1 1 9 = 2) (t : ST) (hS : SgI σ t) (hR : stR t) : Ev X 0 0 (d + 2) mX9_toldBy 0 [some (rv 37), some (rv 14), none, none] [] σ (QI (fun v σ' => v = tlR σ 1 t ∧ Fr [37, 38] σ σ')) := by
  have hr : RlOK σ 14 := by first | exact ho.2.2.2.2.2.2.2.2.2.2.2.1 | exact ho.2.2.2.2.2.2.2.2.2.2.2.2.1 | exact ho.2.2.2.2.2.2.2.2.2.2.2.2.2
  have e : tlR σ 1 t = tlS t (σ.1 14 4) (σ.1 16) (σ.1 14 3) := by unfold tlR; rw [h9]; rfl
  rw [e]
  exact s_toldBy_14 t hS hR.1 hR.2.1 hR.2.2.1 hR.2.2.2 hr.1 hr.2.1 hr.2.2

theorem s_told_17_0 {X : AX} {d : Nat} {σ : SG} (ho : ScOK σ 17) (h9 : σ.1 17 9 = 0) (t : ST) (hS : SgI σ t) (hR : stR t) : Ev X 0 0 (d + 2) mX9_toldBy 0 [some (rv 37), some (rv 24), none, none] [] σ (QI (fun v σ' => v = tlR σ 17 t ∧ Fr [37, 38] σ σ')) := by
  have hr : RlOK σ 24 := by first | exact ho.2.2.2.2.2.2.2.2.2.2.2.1 | exact ho.2.2.2.2.2.2.2.2.2.2.2.2.1 | exact ho.2.2.2.2.2.2.2.2.2.2.2.2.2
  have e : tlR σ 17 t = tlS t (σ.1 24 4) (σ.1 26) (σ.1 24 3) := by unfold tlR; rw [h9]; rfl
  rw [e]
  exact s_toldBy_24 t hS hR.1 hR.2.1 hR.2.2.1 hR.2.2.2 hr.1 hr.2.1 hr.2.2

theorem s_told_17_1 {X : AX} {d : Nat} {σ : SG} (ho : ScOK σ 17) (h9 : σ.1 17 9 = 1) (t : ST) (hS : SgI σ t) (hR : stR t) : Ev X 0 0 (d + 2) mX9_toldBy 0 [some (rv 37), some (rv 27), none, none] [] σ (QI (fun v σ' => v = tlR σ 17 t ∧ Fr [37, 38] σ σ')) := by
  have hr : RlOK σ 27 := by first | exact ho.2.2.2.2.2.2.2.2.2.2.2.1 | exact ho.2.2.2.2.2.2.2.2.2.2.2.2.1 | exact ho.2.2.2.2.2.2.2.2.2.2.2.2.2
  have e : tlR σ 17 t = tlS t (σ.1 27 4) (σ.1 29) (σ.1 27 3) := by unfold tlR; rw [h9]; rfl
  rw [e]
  exact s_toldBy_27 t hS hR.1 hR.2.1 hR.2.2.1 hR.2.2.2 hr.1 hr.2.1 hr.2.2

theorem s_told_17_2 {X : AX} {d : Nat} {σ : SG} (ho : ScOK σ 17) (h9 : σ.1 17 9 = 2) (t : ST) (hS : SgI σ t) (hR : stR t) : Ev X 0 0 (d + 2) mX9_toldBy 0 [some (rv 37), some (rv 30), none, none] [] σ (QI (fun v σ' => v = tlR σ 17 t ∧ Fr [37, 38] σ σ')) := by
  have hr : RlOK σ 30 := by first | exact ho.2.2.2.2.2.2.2.2.2.2.2.1 | exact ho.2.2.2.2.2.2.2.2.2.2.2.2.1 | exact ho.2.2.2.2.2.2.2.2.2.2.2.2.2
  have e : tlR σ 17 t = tlS t (σ.1 30 4) (σ.1 32) (σ.1 30 3) := by unfold tlR; rw [h9]; rfl
  rw [e]
  exact s_toldBy_30 t hS hR.1 hR.2.1 hR.2.2.1 hR.2.2.2 hr.1 hr.2.1 hr.2.2
