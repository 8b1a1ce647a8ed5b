/-! the reference: by turns -/
def eqB (f g : Int → Int) : Nat → Bool
  | 0 => true
  | n + 1 => eqB f g n && decide (f n = g n)
def eqI (f g : Int → Int) (i : Int) : Bool := eqB f g i.toNat
theorem eqI_s (f g : Int → Int) {i : Int} (h : 0 ≤ i) : eqI f g (i + 1) = (eqI f g i && decide (f i = g i)) := by
  unfold eqI
  rw [show (i + 1).toNat = i.toNat + 1 by omega]
  show (eqB f g i.toNat && decide (f ((i.toNat : Nat) : Int) = g ((i.toNat : Nat) : Int))) = _
  rw [Int.toNat_of_nonneg h]
theorem eqB_iff {f g : Int → Int} : ∀ n : Nat, eqB f g n = true ↔ ∀ j : Int, 0 ≤ j → j < (n : Int) → f j = g j
  | 0 => ⟨fun _ j a b => absurd b (by omega), fun _ => rfl⟩
  | n + 1 => by
    show (eqB f g n && decide (f n = g n)) = true ↔ _
    rw [Bool.and_eq_true, decide_eq_true_eq, eqB_iff n]
    constructor
    · intro h j a b
      by_cases e : j = (n : Int)
      · rw [e]; exact h.2
      · exact h.1 j a (by omega)
    · intro h
      exact ⟨fun j a b => h j a (by omega), h n (by omega) (by omega)⟩
def KG (σ τ : SG) : Prop := KA σ τ ∧ ∀ j, ¬ (35 ≤ j ∧ j < 50) → τ.1 89 j = σ.1 89 j
theorem KG.rf {σ : SG} : KG σ σ := ⟨KA.rf, fun _ _ => rfl⟩
theorem KG.tr {a b c : SG} (h1 : KG a b) (h2 : KG b c) : KG a c := ⟨h1.1.tr h2.1, fun j q => (h2.2 j q).trans (h1.2 j q)⟩
def HisI (R : Int → Int) (h : Int → Int64) (r : Int) : Prop := ∀ q, 0 ≤ q → q < r → h q = pkS (fun k => R (15 * q + k)) 15 ∧ ∀ k, 0 ≤ k → k < 15 → 0 ≤ R (15 * q + k) ∧ R (15 * q + k) ≤ 12
theorem b2i_rg (x : Bool) : 0 ≤ b2i x ∧ b2i x ≤ 1 := by cases x <;> decide
theorem b2i_1 {x : Bool} (h : ¬ b2i x = 0) : x = true := by cases x with
  | true => rfl
  | false => exact absurd rfl h
theorem b2i_0 {x : Bool} (h : b2i x = 0) : x = false := by cases x with
  | false => rfl
  | true => exact absurd h (by decide)

set_option maxHeartbeats 4000000 in
set_option maxRecDepth 100000 in
theorem l_m_note {X : AX} {d : Nat} {σ : SG} (r : Int) (hr : 0 ≤ r ∧ r ≤ 40) : ∀ (k : Nat) (i : Int) (τ : SG), 0 ≤ i → i ≤ 15 → 15 - i < k → ((∀ j, 0 ≤ j → j < i → τ.1 103 (15 * r + j) = σ.1 89 (35 + j)) ∧ (∀ j, ¬ (15 * r ≤ j ∧ j < 15 * r + 15) → τ.1 103 j = σ.1 103 j) ∧ Fr [103] σ τ) → Ev X 0 0 d mX11_note 2 [some (rv 88), some (iv r), some (iv i)] [] τ (QV (fun σ' => ((∀ j, 0 ≤ j → j < 15 → σ'.1 103 (15 * r + j) = σ.1 89 (35 + j)) ∧ (∀ j, ¬ (15 * r ≤ j ∧ j < 15 * r + 15) → σ'.1 103 j = σ.1 103 j) ∧ Fr [103] σ σ'))) := by
  intro k
  induction k with
  | zero => intros; omega
  | succ k ih =>
  intro i τ hi0 hi1 hik hI
  refine e_iload_n (pc' := 3) dX11_note_2 rfl rfl ?_
  refine e_bipush (pc' := 5) (z := 15) dX11_note_3 rfl (by decide) ?_
  refine e_icmpI (pc' := 8) (t := 34) dX11_note_5 (by decide) rfl ⟨by omega, by omega⟩ ⟨by omega, by omega⟩ (fun (c2_1 : 15 ≤ (i : Int)) => ?_) (fun (c2_1 : ¬ (15 ≤ (i : Int))) => ?_)
  · exact e_vret dX11_note_34 rfl ⟨rfl, Nat.le_refl _⟩ ⟨rfl, (fun j a c => hI.1 j a (by omega)), hI.2⟩
  · refine e_aload_n (pc' := 9) dX11_note_8 rfl rfl ?_
    refine e_getR (pc' := 12) dX11_note_9 rfl f_11_61 h_88 rfl ?_
    refine e_bipush (pc' := 14) (z := 15) dX11_note_12 rfl (by decide) ?_
    refine e_iload_n (pc' := 15) dX11_note_14 rfl rfl ?_
    refine e_imul (pc' := 16) dX11_note_15 rfl ?_
    refine e_iload_n (pc' := 17) dX11_note_16 rfl rfl ?_
    refine e_iadd (pc' := 18) dX11_note_17 rfl ?_
    refine e_aload_n (pc' := 19) dX11_note_18 rfl rfl ?_
    refine e_getR (pc' := 22) dX11_note_19 rfl f_11_7 h_88 rfl ?_
    refine e_bipush (pc' := 24) (z := 35) dX11_note_22 rfl (by decide) ?_
    refine e_iload_n (pc' := 25) dX11_note_24 rfl rfl ?_
    refine e_iadd (pc' := 26) dX11_note_25 rfl ?_
    refine e_iald (pc' := 27) (v := (σ.1 89 (35 + i))) dX11_note_26 rfl h_89 (by decide) (by omega) (by omega) (congrFun (hI.2.2 89 (by decide)).1 _) ?_
    refine e_iast (pc' := 28) dX11_note_27 rfl h_103 (by decide) (by omega) (by omega) ?_
    refine e_iinc (pc' := 31) (L' := [some (rv 88), some (iv r), some (iv (i + 1))]) dX11_note_28 rfl rfl (by decide) rfl ?_
    refine e_goto (pc' := 2) dX11_note_31 (by decide) ?_
    refine ih (i + 1) (upI τ 103 ((15 * r) + i) (σ.1 89 (35 + i))) (by omega) (by omega) (by omega) ⟨fun j a c => ?_, fun j q => ?_, fr_I hI.2.2 (by decide)⟩
    · by_cases hj : j = i
      · rw [hj]; exact if_pos ⟨rfl, rfl⟩
      · exact (if_neg (fun q => hj (by have := q.2; omega)) : (upI τ 103 ((15 * r) + i) (σ.1 89 (35 + i))).1 103 (15 * r + j) = τ.1 103 (15 * r + j)).trans (hI.1 j a (by omega))
    · exact (if_neg (fun z => q (by have := z.2; omega)) : (upI τ 103 ((15 * r) + i) (σ.1 89 (35 + i))).1 103 j = τ.1 103 j).trans (hI.2.1 j q)

set_option maxHeartbeats 4000000 in
set_option maxRecDepth 100000 in
theorem s_m_note {X : AX} {d : Nat} {σ : SG} (r : Int) (hr : 0 ≤ r ∧ r ≤ 40) : Ev X 0 0 d mX11_note 0 [some (rv 88), some (iv r), none] [] σ (QV (fun σ' => ((∀ j, 0 ≤ j → j < 15 → σ'.1 103 (15 * r + j) = σ.1 89 (35 + j)) ∧ (∀ j, ¬ (15 * r ≤ j ∧ j < 15 * r + 15) → σ'.1 103 j = σ.1 103 j) ∧ Fr [103] σ σ'))) := by
  refine e_iconst (pc' := 1) dX11_note_0 rfl ?_
  refine e_istore_n (pc' := 2) (L' := [some (rv 88), some (iv r), some (iv 0)]) dX11_note_1 rfl (by decide) rfl ?_
  exact l_m_note r hr 16 0 σ (by decide) (by decide) (by decide) ⟨fun j a c => absurd c (by omega), fun _ _ => rfl, Fr.rf⟩

set_option maxHeartbeats 4000000 in
set_option maxRecDepth 100000 in
theorem l_againK {X : AX} {d : Nat} {σ : SG} {Q : Option AV → SG → Prop} (r : Int) (hr : 1 ≤ r ∧ r ≤ 40) (hRr : ∀ q k, 0 ≤ q → q < r → 0 ≤ k → k < 15 → 0 ≤ σ.1 103 (15 * q + k) ∧ σ.1 103 (15 * q + k) ≤ 12) (hNr : ∀ k, 0 ≤ k → k < 15 → 0 ≤ σ.1 89 (35 + k) ∧ σ.1 89 (35 + k) ≤ 12) (q : Int) (hq : 0 ≤ q ∧ q < r) (hK : ∀ y4, Ev X 0 0 d mX11_isAgain 60 [some (rv 88), some (iv r), some (iv q), some (iv (b2i (eqI (fun k => σ.1 103 (15 * q + k)) (fun k => σ.1 89 (35 + k)) 15))), y4] [] σ Q) : ∀ (k : Nat) (k2 lk : Int), 0 ≤ k2 → k2 ≤ 15 → 15 - k2 < k → lk = b2i (eqI (fun k => σ.1 103 (15 * q + k)) (fun k => σ.1 89 (35 + k)) k2) → Ev X 0 0 d mX11_isAgain 12 [some (rv 88), some (iv r), some (iv q), some (iv lk), some (iv k2)] [] σ Q := by
  intro k
  induction k with
  | zero => intros; omega
  | succ k ih =>
  intro k2 lk hk0 hk1 hkk hlk
  refine e_iload (pc' := 14) dX11_isAgain_12 rfl rfl ?_
  refine e_bipush (pc' := 16) (z := 15) dX11_isAgain_14 rfl (by decide) ?_
  refine e_icmpI (pc' := 19) (t := 60) dX11_isAgain_16 (by decide) rfl (by first | exact ⟨by omega, by omega⟩ | (have z := b2i_rg (eqI (fun k => σ.1 103 (15 * q + k)) (fun k => σ.1 89 (35 + k)) k2); exact ⟨by omega, by omega⟩)) ⟨by omega, by omega⟩ (fun (c2_1 : 15 ≤ (k2 : Int)) => ?_) (fun (c2_1 : ¬ (15 ≤ (k2 : Int))) => ?_)
  · rw [hlk, show k2 = 15 by omega]
    exact hK _
  · refine e_iload_n (pc' := 20) dX11_isAgain_19 rfl rfl ?_
    refine e_ifI (pc' := 23) (t := 52) dX11_isAgain_20 (by decide) rfl (by first | exact ⟨by omega, by omega⟩ | (have z := b2i_rg (eqI (fun k => σ.1 103 (15 * q + k)) (fun k => σ.1 89 (35 + k)) k2); exact ⟨by omega, by omega⟩)) (fun (c4_2 : (lk : Int) = 0) => ?_) (fun (c4_2 : ¬ ((lk : Int) = 0)) => ?_)
    · refine e_iconst (pc' := 53) dX11_isAgain_52 rfl ?_
      refine e_istore_n (pc' := 54) (L' := [some (rv 88), some (iv r), some (iv q), some (iv 0), some (iv k2)]) dX11_isAgain_53 rfl (by decide) rfl ?_
      refine e_iinc (pc' := 57) (L' := [some (rv 88), some (iv r), some (iv q), some (iv 0), some (iv (k2 + 1))]) dX11_isAgain_54 rfl rfl (by decide) rfl ?_
      refine e_goto (pc' := 12) dX11_isAgain_57 (by decide) ?_
      refine ih (k2 + 1) _ (by omega) (by omega) (by omega) ?_
      rw [eqI_s _ _ hk0]
      first
        | (rw [b2i_0 (x := eqI (fun k => σ.1 103 (15 * q + k)) (fun k => σ.1 89 (35 + k)) k2) (by omega)]; rfl)
        | (rw [b2i_1 (x := eqI (fun k => σ.1 103 (15 * q + k)) (fun k => σ.1 89 (35 + k)) k2) (by omega), decide_eq_true (by assumption)]; rfl)
        | (rw [b2i_1 (x := eqI (fun k => σ.1 103 (15 * q + k)) (fun k => σ.1 89 (35 + k)) k2) (by omega), decide_eq_false (by assumption)]; rfl)
        | (rw [b2i_1 (x := eqI (fun k => σ.1 103 (15 * q + k)) (fun k => σ.1 89 (35 + k)) k2) (by omega), decide_eq_true (Classical.byContradiction (by assumption))]; rfl)
    · have hr1 := hRr q k2 hq.1 hq.2 (by omega) (by omega)
      have hn1 := hNr k2 (by omega) (by omega)
      refine e_aload_n (pc' := 24) dX11_isAgain_23 rfl rfl ?_
      refine e_getR (pc' := 27) dX11_isAgain_24 rfl f_11_61 h_88 rfl ?_
      refine e_bipush (pc' := 29) (z := 15) dX11_isAgain_27 rfl (by decide) ?_
      refine e_iload_n (pc' := 30) dX11_isAgain_29 rfl rfl ?_
      refine e_imul (pc' := 31) dX11_isAgain_30 rfl ?_
      refine e_iload (pc' := 33) dX11_isAgain_31 rfl rfl ?_
      refine e_iadd (pc' := 34) dX11_isAgain_33 rfl ?_
      refine e_iald (pc' := 35) (v := (σ.1 103 ((15 * q) + k2))) dX11_isAgain_34 rfl h_103 (by decide) (by omega) (by omega) rfl ?_
      refine e_aload_n (pc' := 36) dX11_isAgain_35 rfl rfl ?_
      refine e_getR (pc' := 39) dX11_isAgain_36 rfl f_11_7 h_88 rfl ?_
      refine e_bipush (pc' := 41) (z := 35) dX11_isAgain_39 rfl (by decide) ?_
      refine e_iload (pc' := 43) dX11_isAgain_41 rfl rfl ?_
      refine e_iadd (pc' := 44) dX11_isAgain_43 rfl ?_
      refine e_iald (pc' := 45) (v := (σ.1 89 (35 + k2))) dX11_isAgain_44 rfl h_89 (by decide) (by omega) (by omega) rfl ?_
      refine e_icmpI (pc' := 48) (t := 52) dX11_isAgain_45 (by decide) rfl (by first | exact ⟨by omega, by omega⟩ | (have z := b2i_rg (eqI (fun k => σ.1 103 (15 * q + k)) (fun k => σ.1 89 (35 + k)) k2); exact ⟨by omega, by omega⟩)) (by first | exact ⟨by omega, by omega⟩ | (have z := b2i_rg (eqI (fun k => σ.1 103 (15 * q + k)) (fun k => σ.1 89 (35 + k)) k2); exact ⟨by omega, by omega⟩)) (fun (c6_3 : ((σ.1 103 ((15 * q) + k2)) : Int) ≠ (σ.1 89 (35 + k2))) => ?_) (fun (c6_3 : ¬ (((σ.1 103 ((15 * q) + k2)) : Int) ≠ (σ.1 89 (35 + k2)))) => ?_)
      · refine e_iconst (pc' := 53) dX11_isAgain_52 rfl ?_
        refine e_istore_n (pc' := 54) (L' := [some (rv 88), some (iv r), some (iv q), some (iv 0), some (iv k2)]) dX11_isAgain_53 rfl (by decide) rfl ?_
        refine e_iinc (pc' := 57) (L' := [some (rv 88), some (iv r), some (iv q), some (iv 0), some (iv (k2 + 1))]) dX11_isAgain_54 rfl rfl (by decide) rfl ?_
        refine e_goto (pc' := 12) dX11_isAgain_57 (by decide) ?_
        refine ih (k2 + 1) _ (by omega) (by omega) (by omega) ?_
        rw [eqI_s _ _ hk0]
        first
          | (rw [b2i_0 (x := eqI (fun k => σ.1 103 (15 * q + k)) (fun k => σ.1 89 (35 + k)) k2) (by omega)]; rfl)
          | (rw [b2i_1 (x := eqI (fun k => σ.1 103 (15 * q + k)) (fun k => σ.1 89 (35 + k)) k2) (by omega), decide_eq_true (by assumption)]; rfl)
          | (rw [b2i_1 (x := eqI (fun k => σ.1 103 (15 * q + k)) (fun k => σ.1 89 (35 + k)) k2) (by omega), decide_eq_false (by assumption)]; rfl)
          | (rw [b2i_1 (x := eqI (fun k => σ.1 103 (15 * q + k)) (fun k => σ.1 89 (35 + k)) k2) (by omega), decide_eq_true (Classical.byContradiction (by assumption))]; rfl)
      · refine e_iconst (pc' := 49) dX11_isAgain_48 rfl ?_
        refine e_goto (pc' := 53) dX11_isAgain_49 (by decide) ?_
        refine e_istore_n (pc' := 54) (L' := [some (rv 88), some (iv r), some (iv q), some (iv 1), some (iv k2)]) dX11_isAgain_53 rfl (by decide) rfl ?_
        refine e_iinc (pc' := 57) (L' := [some (rv 88), some (iv r), some (iv q), some (iv 1), some (iv (k2 + 1))]) dX11_isAgain_54 rfl rfl (by decide) rfl ?_
        refine e_goto (pc' := 12) dX11_isAgain_57 (by decide) ?_
        refine ih (k2 + 1) _ (by omega) (by omega) (by omega) ?_
        rw [eqI_s _ _ hk0]
        first
          | (rw [b2i_0 (x := eqI (fun k => σ.1 103 (15 * q + k)) (fun k => σ.1 89 (35 + k)) k2) (by omega)]; rfl)
          | (rw [b2i_1 (x := eqI (fun k => σ.1 103 (15 * q + k)) (fun k => σ.1 89 (35 + k)) k2) (by omega), decide_eq_true (by assumption)]; rfl)
          | (rw [b2i_1 (x := eqI (fun k => σ.1 103 (15 * q + k)) (fun k => σ.1 89 (35 + k)) k2) (by omega), decide_eq_false (by assumption)]; rfl)
          | (rw [b2i_1 (x := eqI (fun k => σ.1 103 (15 * q + k)) (fun k => σ.1 89 (35 + k)) k2) (by omega), decide_eq_true (Classical.byContradiction (by assumption))]; rfl)

set_option maxHeartbeats 4000000 in
set_option maxRecDepth 100000 in
theorem l_again {X : AX} {d : Nat} {σ : SG} (r : Int) (hr : 1 ≤ r ∧ r ≤ 40) (h : Int → Int64) (hH : HisI (σ.1 103) h r) (hNr : ∀ k, 0 ≤ k → k < 15 → 0 ≤ σ.1 89 (35 + k) ∧ σ.1 89 (35 + k) ≤ 12) : ∀ (k : Nat) (q : Int) (x3 x4 : Option AV), 0 ≤ q → q ≤ r → r - q < k → wbI h (pkS (fun k => σ.1 89 (35 + k)) 15) q = false → Ev X 0 0 d mX11_isAgain 2 [some (rv 88), some (iv r), some (iv q), x3, x4] [] σ (QI (fun z σ' => σ' = σ ∧ z = b2i (wbI h (pkS (fun k => σ.1 89 (35 + k)) 15) r))) := by
  intro k
  induction k with
  | zero => intros; omega
  | succ k ih =>
  intro q x3 x4 hq0 hq1 hqk hw
  refine e_iload_n (pc' := 3) dX11_isAgain_2 rfl rfl ?_
  refine e_iload_n (pc' := 4) dX11_isAgain_3 rfl rfl ?_
  refine e_icmpI (pc' := 7) (t := 72) dX11_isAgain_4 (by decide) rfl ⟨by omega, by omega⟩ ⟨by omega, by omega⟩ (fun (c2_1 : r ≤ (q : Int)) => ?_) (fun (c2_1 : ¬ (r ≤ (q : Int))) => ?_)
  · refine e_iconst (pc' := 73) dX11_isAgain_72 rfl ?_
    exact e_zret dX11_isAgain_73 rfl (by decide) ⟨rfl, Nat.le_refl _⟩ ⟨_, rfl, rfl, by rw [show r = q by omega, hw]; rfl⟩
  · refine e_iconst (pc' := 8) dX11_isAgain_7 rfl ?_
    refine e_istore_n (pc' := 9) (L' := [some (rv 88), some (iv r), some (iv q), some (iv 1), x4]) dX11_isAgain_8 rfl (by decide) rfl ?_
    refine e_iconst (pc' := 10) dX11_isAgain_9 rfl ?_
    refine e_istore (pc' := 12) (L' := [some (rv 88), some (iv r), some (iv q), some (iv 1), some (iv 0)]) dX11_isAgain_10 rfl (by decide) rfl ?_
    refine l_againK r hr (fun q k a c e f => (hH q a c).2 k e f) hNr q ⟨hq0, by omega⟩ (fun y4 => ?_) 16 0 1 (by decide) (by decide) (by decide) rfl
    refine e_iload_n (pc' := 61) dX11_isAgain_60 rfl rfl ?_
    refine e_ifI (pc' := 64) (t := 66) dX11_isAgain_61 (by decide) rfl (by first | exact ⟨by omega, by omega⟩ | (have z := b2i_rg (eqI (fun k => σ.1 103 (15 * q + k)) (fun k => σ.1 89 (35 + k)) 15); exact ⟨by omega, by omega⟩)) (fun (c2_1 : ((b2i (eqI (fun k => σ.1 103 (15 * q + k)) (fun k => σ.1 89 (35 + k)) 15)) : Int) = 0) => ?_) (fun (c2_1 : ¬ (((b2i (eqI (fun k => σ.1 103 (15 * q + k)) (fun k => σ.1 89 (35 + k)) 15)) : Int) = 0)) => ?_)
    · have hne : ¬ h q = pkS (fun k => σ.1 89 (35 + k)) 15 := by
        intro e
        rw [(hH q (by omega) (by omega)).1] at e
        have e2 := (pk_iff (hH q (by omega) (by omega)).2 hNr).mp e
        have e3 : eqI (fun k => σ.1 103 (15 * q + k)) (fun k => σ.1 89 (35 + k)) 15 = true := (eqB_iff 15).mpr e2
        rw [e3] at c2_1
        exact absurd c2_1 (by decide)
      refine e_iinc (pc' := 69) (L' := [some (rv 88), some (iv r), some (iv (q + 1)), some (iv (b2i (eqI (fun k => σ.1 103 (15 * q + k)) (fun k => σ.1 89 (35 + k)) 15))), y4]) dX11_isAgain_66 rfl rfl (by decide) rfl ?_
      refine e_goto (pc' := 2) dX11_isAgain_69 (by decide) ?_
      exact ih (q + 1) _ _ (by omega) (by omega) (by omega) (by rw [wbI_s _ _ hq0, hw, decide_eq_false hne]; rfl)
    · have heq : h q = pkS (fun k => σ.1 89 (35 + k)) 15 := by
        rw [(hH q (by omega) (by omega)).1]
        exact (pk_iff (hH q (by omega) (by omega)).2 hNr).mpr ((eqB_iff 15).mp (b2i_1 c2_1))
      refine e_iconst (pc' := 65) dX11_isAgain_64 rfl ?_
      exact e_zret dX11_isAgain_65 rfl (by decide) ⟨rfl, Nat.le_refl _⟩ ⟨_, rfl, rfl, by have e : wbI h (pkS (fun k => σ.1 89 (35 + k)) 15) (q + 1) = true := (by rw [wbI_s _ _ hq0, decide_eq_true heq, Bool.or_true]); have e2 : wbI h (pkS (fun k => σ.1 89 (35 + k)) 15) r = true := wbB_t e (by omega); rw [e2]; rfl⟩

set_option maxHeartbeats 4000000 in
set_option maxRecDepth 100000 in
theorem s_m_isAgain {X : AX} {d : Nat} {σ : SG} (r : Int) (hr : 1 ≤ r ∧ r ≤ 40) (h : Int → Int64) (hH : HisI (σ.1 103) h r) (hNr : ∀ k, 0 ≤ k → k < 15 → 0 ≤ σ.1 89 (35 + k) ∧ σ.1 89 (35 + k) ≤ 12) : Ev X 0 0 d mX11_isAgain 0 [some (rv 88), some (iv r), none, none, none] [] σ (QI (fun z σ' => σ' = σ ∧ z = b2i (wbI h (pkS (fun k => σ.1 89 (35 + k)) 15) r))) := by
  refine e_iconst (pc' := 1) dX11_isAgain_0 rfl ?_
  refine e_istore_n (pc' := 2) (L' := [some (rv 88), some (iv r), some (iv 0), none, none]) dX11_isAgain_1 rfl (by decide) rfl ?_
  exact l_again r hr h hH hNr (r + 1).toNat 0 _ _ (by omega) (by omega) (by omega) rfl

set_option maxHeartbeats 4000000 in
set_option maxRecDepth 100000 in
theorem l_gT {X : AX} {d : Nat} {σ : SG} {b : Nat} {G : Int} (hg0 : 0 ≤ G ∧ G ≤ 5) (Wf : SG × Int) (r : Int) (hr : 1 ≤ r ∧ r ≤ 40) (R : Int → Int) : ∀ (n : Nat) (i st : Int) (ρ τ : SG) (x4 : Option AV), 0 ≤ i → i + n = G → MdI τ ρ b → ρ.1 b 6 = G → τ.1 103 = R → Fr [88, 89, 92, 93, 94, 95, 96, 97, 98, 99, 101, 102, 103] σ τ → KG σ τ → 0 ≤ st ∧ (st < G ∨ st = 0) → ((inS b G n ρ i st).2.2 = true → Wf = ((inS b G n ρ i st).1, 0)) → ((inS b G n ρ i st).2.2 = false → ∀ (τ' : SG) (y3 y4 : Option AV), MdI τ' (inS b G n ρ i st).1 b → (inS b G n ρ i st).1.1 b 6 = G → τ'.1 103 = R → Fr [88, 89, 92, 93, 94, 95, 96, 97, 98, 99, 101, 102, 103] σ τ' → KG σ τ' → Ev X 0 0 (d + 8) mX11_goByTurns 90 [some (rv 88), some (iv ((inS b G n ρ i st).2.1)), some (iv r), y3, y4] [] τ' (QI (fun z σ' => z = Wf.2 ∧ MdI σ' Wf.1 b ∧ Fr [88, 89, 92, 93, 94, 95, 96, 97, 98, 99, 101, 102, 103] σ σ' ∧ KG σ σ'))) → Ev X 0 0 (d + 8) mX11_goByTurns 17 [some (rv 88), some (iv st), some (iv r), some (iv i), x4] [] τ (QI (fun z σ' => z = Wf.2 ∧ MdI σ' Wf.1 b ∧ Fr [88, 89, 92, 93, 94, 95, 96, 97, 98, 99, 101, 102, 103] σ σ' ∧ KG σ σ')) := by
  intro n
  induction n using Nat.strongRecOn with
  | ind n ih =>
  intro i st ρ τ x4 hi hn hM hG6 hR hF hK hst hc1 hc2
  refine e_iload_n (pc' := 18) dX11_goByTurns_17 rfl rfl ?_
  refine e_aload_n (pc' := 19) dX11_goByTurns_18 rfl rfl ?_
  refine e_cv0i (pc' := 22) dX11_goByTurns_19 rfl k_11_76 h_88 rfl (Nat.le_of_ble_eq_true rfl) rfl rfl ⟨rfl, rfl⟩ ⟨Nat.zero_le _, Nat.zero_le _⟩ s_m_givers ?_
  intro z1 σ' hr1; rw [hr1.1, hr1.2, hM.2.2.1.1.1, hG6]; clear hr1
  refine e_icmpI (pc' := 25) (t := 90) dX11_goByTurns_22 (by decide) rfl ⟨by omega, by omega⟩ ⟨by omega, by omega⟩ (fun (c2_1 : G ≤ (i : Int)) => ?_) (fun (c2_1 : ¬ (G ≤ (i : Int))) => ?_)
  · match n, hn, hc1, hc2 with
    | 0, hn, hc1, hc2 => exact hc2 rfl τ _ _ hM hG6 hR hF hK
    | n + 1, hn, hc1, hc2 => omega
  · refine e_aload_n (pc' := 26) dX11_goByTurns_25 rfl rfl ?_
    refine e_iload_n (pc' := 27) dX11_goByTurns_26 rfl rfl ?_
    refine e_cv1i (pc' := 30) dX11_goByTurns_27 rfl k_11_224 h_88 rfl (Nat.le_of_ble_eq_true rfl) rfl rfl ⟨rfl, rfl⟩ ⟨Nat.zero_le _, Nat.zero_le _⟩ (s_m_findBest hM i ⟨by omega, by omega⟩) ?_
    rintro bm τ1 ⟨hbm, hrow, hN1, hF1, hK1, hM1⟩
    have hbo := be_ok hM.1 hM.2.1 (g := i) ⟨by omega, by omega⟩
    have hber := hbo.1
    have hbfr := (ch_ok hM.1 hM.2.1 (g := i) ⟨by omega, by omega⟩).2.2
    rw [← hbm] at hber
    refine e_istore (pc' := 32) (L' := [some (rv 88), some (iv st), some (iv r), some (iv i), some (iv bm)]) dX11_goByTurns_30 rfl (by decide) rfl ?_
    refine e_aload_n (pc' := 33) dX11_goByTurns_32 rfl rfl ?_
    refine e_cv0v (pc' := 36) dX11_goByTurns_33 rfl k_11_211 h_88 rfl (Nat.le_of_ble_eq_true rfl) rfl rfl ⟨rfl, rfl⟩ ⟨Nat.zero_le _, Nat.zero_le _⟩ (s_m_addUpN hM1) ?_
    rintro τ2 ⟨hL2, hE2, hK2, hM2⟩
    have hF2 : Fr [88, 89, 92, 93, 94, 95, 96, 97, 98, 99, 101, 102, 103] σ τ2 := (hF.tr (hF1.mono (by decide))).tr (hE2.mono (by decide))
    have hKK2 : KG σ τ2 := hK.tr ⟨hK1.tr hK2, fun j _ => by rw [(hE2 89 (by decide)).1, hN1]⟩
    have hR2 : τ2.1 103 = R := ((hE2 103 (by decide)).1.trans (hF1 103 (by decide)).1).trans hR
    have e101 : τ2.1 101 = τ1.1 101 := (hE2 101 (by decide)).1
    refine e_iinc (pc' := 39) (L' := [some (rv 88), some (iv (st + 1)), some (iv r), some (iv i), some (iv bm)]) dX11_goByTurns_36 rfl rfl (by decide) rfl ?_
    refine e_iload (pc' := 41) dX11_goByTurns_39 rfl rfl ?_
    refine e_aload_n (pc' := 42) dX11_goByTurns_41 rfl rfl ?_
    refine e_iload_n (pc' := 43) dX11_goByTurns_42 rfl rfl ?_
    refine e_cv1i (pc' := 46) dX11_goByTurns_43 rfl k_11_214 h_88 rfl (Nat.le_of_ble_eq_true rfl) rfl rfl ⟨rfl, rfl⟩ ⟨Nat.zero_le _, Nat.zero_le _⟩ (s_m_hasN hM2 hL2 i ⟨by omega, by omega⟩) ?_
    intro z σ' hz; rw [hz.1, hz.2]; clear hz
    refine e_icmpI (pc' := 49) (t := 74) dX11_goByTurns_46 (by decide) rfl ⟨by omega, by omega⟩ ⟨by omega, by omega⟩ (fun (c4_2 : (bm : Int) ≤ (bfS ρ b i)) => ?_) (fun (c4_2 : ¬ ((bm : Int) ≤ (bfS ρ b i))) => ?_)
    · refine e_iload_n (pc' := 75) dX11_goByTurns_74 rfl rfl ?_
      refine e_aload_n (pc' := 76) dX11_goByTurns_75 rfl rfl ?_
      refine e_cv0i (pc' := 79) dX11_goByTurns_76 rfl k_11_76 h_88 rfl (Nat.le_of_ble_eq_true rfl) rfl rfl ⟨rfl, rfl⟩ ⟨Nat.zero_le _, Nat.zero_le _⟩ s_m_givers ?_
      intro z1 σ' hr1; rw [hr1.1, hr1.2, hM2.2.2.1.1.1, hG6]; clear hr1
      refine e_icmpI (pc' := 82) (t := 84) dX11_goByTurns_79 (by decide) rfl ⟨by omega, by omega⟩ ⟨by omega, by omega⟩ (fun (c6_3 : ((st + 1) : Int) ≠ G) => ?_) (fun (c6_3 : ¬ (((st + 1) : Int) ≠ G)) => ?_)
      · refine e_iinc (pc' := 87) (L' := [some (rv 88), some (iv (st + 1)), some (iv r), some (iv (i + 1)), some (iv bm)]) dX11_goByTurns_84 rfl rfl (by decide) rfl ?_
        refine e_goto (pc' := 17) dX11_goByTurns_87 (by decide) ?_
        match n, hn, hc1, hc2 with
        | 0, hn, hc1, hc2 => omega
        | n + 1, hn, hc1, hc2 =>
          have ei : inS b G (n + 1) ρ i st = (if st + 1 = G then (ρ, st + 1, true) else inS b G n ρ (i + 1) (st + 1)) := if_neg (by omega)
          rw [if_neg (by omega)] at ei
          rw [ei] at hc1 hc2
          exact ih n (by omega) (i + 1) _ _ _ _ (by omega) (by omega) hM2 hG6 hR2 hF2 hKK2 (by omega) hc1 hc2
      · refine e_iconst (pc' := 83) dX11_goByTurns_82 rfl ?_
        exact e_iret dX11_goByTurns_83 rfl ⟨rfl, Nat.le_refl _⟩ (by
    match n, hn, hc1, hc2 with
    | 0, hn, hc1, hc2 => omega
    | n + 1, hn, hc1, hc2 =>
      have ei : inS b G (n + 1) ρ i st = (if st + 1 = G then (ρ, st + 1, true) else inS b G n ρ (i + 1) (st + 1)) := if_neg (by omega)
      rw [if_pos (by omega)] at ei
      rw [ei] at hc1
      have hw := hc1 rfl
      rw [hw]
      exact ⟨_, rfl, rfl, hM2, hF2, hKK2⟩)
    · refine e_aload_n (pc' := 50) dX11_goByTurns_49 rfl rfl ?_
      refine e_iload_n (pc' := 51) dX11_goByTurns_50 rfl rfl ?_
      refine e_aload_n (pc' := 52) dX11_goByTurns_51 rfl rfl ?_
      refine e_getR (pc' := 55) dX11_goByTurns_52 rfl f_11_55 h_88 rfl ?_
      refine e_iconst (pc' := 56) dX11_goByTurns_55 rfl ?_
      refine e_iald (pc' := 57) (v := ((beS ρ b i).2.1)) dX11_goByTurns_56 rfl h_101 (by decide) (by omega) (by omega) ((congrFun e101 0).trans hrow.1) ?_
      refine e_aload_n (pc' := 58) dX11_goByTurns_57 rfl rfl ?_
      refine e_getR (pc' := 61) dX11_goByTurns_58 rfl f_11_55 h_88 rfl ?_
      refine e_iconst (pc' := 62) dX11_goByTurns_61 rfl ?_
      refine e_iald (pc' := 63) (v := ((beS ρ b i).2.2.1)) dX11_goByTurns_62 rfl h_101 (by decide) (by omega) (by omega) ((congrFun e101 1).trans hrow.2.1) ?_
      refine e_aload_n (pc' := 64) dX11_goByTurns_63 rfl rfl ?_
      refine e_getR (pc' := 67) dX11_goByTurns_64 rfl f_11_55 h_88 rfl ?_
      refine e_iconst (pc' := 68) dX11_goByTurns_67 rfl ?_
      refine e_iald (pc' := 69) (v := ((beS ρ b i).2.2.2)) dX11_goByTurns_68 rfl h_101 (by decide) (by omega) (by omega) ((congrFun e101 2).trans hrow.2.2) ?_
      refine e_cv4v (pc' := 72) dX11_goByTurns_69 rfl k_11_220 h_88 rfl (Nat.le_of_ble_eq_true rfl) rfl rfl ⟨rfl, rfl⟩ ⟨Nat.zero_le _, Nat.zero_le _⟩ (s_m_setRow i (beS ρ b i).2.1 (beS ρ b i).2.2.1 (beS ρ b i).2.2.2 ⟨by omega, by omega⟩) ?_
      rintro τ3 ⟨hN3, hE3⟩
      have hK23 : KA τ2 τ3 := by have e := (hE3 88 (by decide)).1; unfold KA; rw [e]; exact ⟨rfl, rfl, rfl⟩
      have hM3 : MdI τ3 (gU ρ b i (beS ρ b i)) b := MdI_row hM2 ⟨by omega, by omega⟩ hbo.2 hN3 (hE3 100 (by decide)).1 hK23 (RtI.fr hM2.2.2.2.2.2.2.1 (hE3 96 (by decide)).2)
      have hG3 : (gU ρ b i (beS ρ b i)).1 b 6 = G := by rw [gU_ne (by omega)]; exact hG6
      have hF3 : Fr [88, 89, 92, 93, 94, 95, 96, 97, 98, 99, 101, 102, 103] σ τ3 := hF2.tr (hE3.mono (by decide))
      have hKK3 : KG σ τ3 := hKK2.tr ⟨hK23, fun j hj => by rw [hN3]; exact if_neg (by omega)⟩
      have hR3 : τ3.1 103 = R := (hE3 103 (by decide)).1.trans hR2
      refine e_iconst (pc' := 73) dX11_goByTurns_72 rfl ?_
      refine e_istore_n (pc' := 74) (L' := [some (rv 88), some (iv 0), some (iv r), some (iv i), some (iv bm)]) dX11_goByTurns_73 rfl (by decide) rfl ?_
      refine e_iload_n (pc' := 75) dX11_goByTurns_74 rfl rfl ?_
      refine e_aload_n (pc' := 76) dX11_goByTurns_75 rfl rfl ?_
      refine e_cv0i (pc' := 79) dX11_goByTurns_76 rfl k_11_76 h_88 rfl (Nat.le_of_ble_eq_true rfl) rfl rfl ⟨rfl, rfl⟩ ⟨Nat.zero_le _, Nat.zero_le _⟩ s_m_givers ?_
      intro z1 σ' hr1; rw [hr1.1, hr1.2, hM3.2.2.1.1.1, hG3]; clear hr1
      refine e_icmpI (pc' := 82) (t := 84) dX11_goByTurns_79 (by decide) rfl ⟨by omega, by omega⟩ ⟨by omega, by omega⟩ (fun (c6_3 : (0 : Int) ≠ G) => ?_) (fun (c6_3 : ¬ ((0 : Int) ≠ G)) => ?_)
      · refine e_iinc (pc' := 87) (L' := [some (rv 88), some (iv 0), some (iv r), some (iv (i + 1)), some (iv bm)]) dX11_goByTurns_84 rfl rfl (by decide) rfl ?_
        refine e_goto (pc' := 17) dX11_goByTurns_87 (by decide) ?_
        match n, hn, hc1, hc2 with
        | 0, hn, hc1, hc2 => omega
        | n + 1, hn, hc1, hc2 =>
          have ei : inS b G (n + 1) ρ i st = (if 0 = G then (gU ρ b i (beS ρ b i), 0, true) else inS b G n (gU ρ b i (beS ρ b i)) (i + 1) 0) := if_pos (by omega)
          rw [if_neg (by omega)] at ei
          rw [ei] at hc1 hc2
          exact ih n (by omega) (i + 1) _ _ _ _ (by omega) (by omega) hM3 hG3 hR3 hF3 hKK3 (by omega) hc1 hc2
      · refine e_iconst (pc' := 83) dX11_goByTurns_82 rfl ?_
        exact e_iret dX11_goByTurns_83 rfl ⟨rfl, Nat.le_refl _⟩ (by
    match n, hn, hc1, hc2 with
    | 0, hn, hc1, hc2 => omega
    | n + 1, hn, hc1, hc2 =>
      have ei : inS b G (n + 1) ρ i st = (if 0 = G then (gU ρ b i (beS ρ b i), 0, true) else inS b G n (gU ρ b i (beS ρ b i)) (i + 1) 0) := if_pos (by omega)
      rw [if_pos (by omega)] at ei
      rw [ei] at hc1
      have hw := hc1 rfl
      rw [hw]
      exact ⟨_, rfl, rfl, hM3, hF3, hKK3⟩)

set_option maxHeartbeats 4000000 in
set_option maxRecDepth 100000 in
theorem l_gR {X : AX} {d : Nat} {σ : SG} {b : Nat} {G : Int} (hg0 : 0 ≤ G ∧ G ≤ 5) (Wf : SG × Int) : ∀ (m : Nat) (r st : Int) (h : Int → Int64) (ρ τ : SG) (x3 x4 : Option AV), 1 ≤ r → r + m = 41 → MdI τ ρ b → ρ.1 b 6 = G → Fr [88, 89, 92, 93, 94, 95, 96, 97, 98, 99, 101, 102, 103] σ τ → KG σ τ → (r ≤ 40 → HisI (τ.1 103) h r) → 0 ≤ st ∧ (st < G ∨ st = 0) → Wf = ouS b G m ρ st r h → Ev X 0 0 (d + 8) mX11_goByTurns 9 [some (rv 88), some (iv st), some (iv r), x3, x4] [] τ (QI (fun z σ' => z = Wf.2 ∧ MdI σ' Wf.1 b ∧ Fr [88, 89, 92, 93, 94, 95, 96, 97, 98, 99, 101, 102, 103] σ σ' ∧ KG σ σ')) := by
  intro m
  induction m using Nat.strongRecOn with
  | ind m ih =>
  intro r st h ρ τ x3 x4 hr0 hm hM hG6 hF hK hHi hst hW
  refine e_iload_n (pc' := 10) dX11_goByTurns_9 rfl rfl ?_
  refine e_bipush (pc' := 12) (z := 40) dX11_goByTurns_10 rfl (by decide) ?_
  refine e_icmpI (pc' := 15) (t := 117) dX11_goByTurns_12 (by decide) rfl ⟨by omega, by omega⟩ ⟨by omega, by omega⟩ (fun (c2_1 : 40 < (r : Int)) => ?_) (fun (c2_1 : ¬ (40 < (r : Int))) => ?_)
  · refine e_iconst (pc' := 118) dX11_goByTurns_117 rfl ?_
    exact e_iret dX11_goByTurns_118 rfl ⟨rfl, Nat.le_refl _⟩ (by
    match m, hm, hW with
    | 0, hm, hW => rw [hW]; exact ⟨_, rfl, rfl, hM, hF, hK⟩
    | m + 1, hm, hW => omega)
  · refine e_iconst (pc' := 16) dX11_goByTurns_15 rfl ?_
    refine e_istore_n (pc' := 17) (L' := [some (rv 88), some (iv st), some (iv r), some (iv 0), x4]) dX11_goByTurns_16 rfl (by decide) rfl ?_
    match m, hm, hW with
    | 0, hm, hW => omega
    | m + 1, hm, hW =>
      refine l_gT hg0 Wf r (by omega) (τ.1 103) G.toNat 0 st ρ τ _ (by omega) (by omega) hM hG6 rfl hF hK hst (fun ht => ?_) (fun hfalse τ' y3 y4 hM' hG' hR' hF' hK' => ?_)
      · rw [hW, ouS_s, if_pos ht]
      · have hNr : ∀ k, 0 ≤ k → k < 15 → 0 ≤ τ'.1 89 (35 + k) ∧ τ'.1 89 (35 + k) ≤ 12 := fun k a c => by rw [(hM'.2.2.1.2.2.2 k a c).2.2]; exact hM'.1.2.2.2.2.2.2.1 k a c
        have hpv : pkS (fun k => τ'.1 89 (35 + k)) 15 = (pkS ((inS b G G.toNat ρ 0 st).1.1 (b + 5)) 15) := pkS_cg 15 (fun k a c => (hM'.2.2.1.2.2.2 k a c).2.2)
        refine e_aload_n (pc' := 91) dX11_goByTurns_90 rfl rfl ?_
        refine e_iload_n (pc' := 92) dX11_goByTurns_91 rfl rfl ?_
        refine e_cv1i (pc' := 95) dX11_goByTurns_92 rfl k_11_230 h_88 rfl (Nat.le_of_ble_eq_true rfl) rfl rfl ⟨rfl, rfl⟩ ⟨Nat.zero_le _, Nat.zero_le _⟩ (s_m_isAgain r (by omega) h (by rw [hR']; exact hHi (by omega)) hNr) ?_
        intro z σ' hz; rw [hz.1, hz.2, hpv]; clear hz
        refine e_ifI (pc' := 98) (t := 100) dX11_goByTurns_95 (by decide) rfl (by first | exact ⟨by omega, by omega⟩ | (have z := b2i_rg (wbI h (pkS ((inS b G G.toNat ρ 0 st).1.1 (b + 5)) 15) r); exact ⟨by omega, by omega⟩)) (fun (c2_1 : ((b2i (wbI h (pkS ((inS b G G.toNat ρ 0 st).1.1 (b + 5)) 15) r)) : Int) = 0) => ?_) (fun (c2_1 : ¬ (((b2i (wbI h (pkS ((inS b G G.toNat ρ 0 st).1.1 (b + 5)) 15) r)) : Int) = 0)) => ?_)
        · have hwb : wbI h (pkS ((inS b G G.toNat ρ 0 st).1.1 (b + 5)) 15) r = false := b2i_0 c2_1
          refine e_iload_n (pc' := 101) dX11_goByTurns_100 rfl rfl ?_
          refine e_bipush (pc' := 103) (z := 40) dX11_goByTurns_101 rfl (by decide) ?_
          refine e_icmpI (pc' := 106) (t := 111) dX11_goByTurns_103 (by decide) rfl (by first | exact ⟨by omega, by omega⟩ | (have z := b2i_rg (wbI h (pkS ((inS b G G.toNat ρ 0 st).1.1 (b + 5)) 15) r); exact ⟨by omega, by omega⟩)) ⟨by omega, by omega⟩ (fun (c4_2 : 40 ≤ (r : Int)) => ?_) (fun (c4_2 : ¬ (40 ≤ (r : Int))) => ?_)
          · refine e_iinc (pc' := 114) (L' := [some (rv 88), some (iv ((inS b G G.toNat ρ 0 st).2.1)), some (iv (r + 1)), y3, y4]) dX11_goByTurns_111 rfl rfl (by decide) rfl ?_
            refine e_goto (pc' := 9) dX11_goByTurns_114 (by decide) ?_
            exact ih m (by omega) (r + 1) ((inS b G G.toNat ρ 0 st).2.1) (updA h r (pkS ((inS b G G.toNat ρ 0 st).1.1 (b + 5)) 15)) (inS b G G.toNat ρ 0 st).1 τ' _ _ (by omega) (by omega) hM' hG' hF' hK' (fun q => absurd q (by omega)) ⟨(inS_st _ _ _ _ _ _ hst (by omega)).1, (inS_st _ _ _ _ _ _ hst (by omega)).2 hfalse⟩ (by rw [hW, ouS_s, if_neg (by rw [hfalse]; decide), if_neg (by rw [wb_upd, hwb]; decide)])
          · refine e_aload_n (pc' := 107) dX11_goByTurns_106 rfl rfl ?_
            refine e_iload_n (pc' := 108) dX11_goByTurns_107 rfl rfl ?_
            refine e_cv1v (pc' := 111) dX11_goByTurns_108 rfl k_11_227 h_88 rfl (Nat.le_of_ble_eq_true rfl) rfl rfl ⟨rfl, rfl⟩ ⟨Nat.zero_le _, Nat.zero_le _⟩ (s_m_note r ⟨by omega, by omega⟩) ?_
            rintro τn ⟨hn1, hn2, hn3⟩
            have hKn : KA τ' τn := by have e := (hn3 88 (by decide)).1; unfold KA; rw [e]; exact ⟨rfl, rfl, rfl⟩
            have hMn : MdI τn (inS b G G.toNat ρ 0 st).1 b := hM'.fr (hn3 89 (by decide)).1 (hn3 100 (by decide)).1 hKn (RtI.fr hM'.2.2.2.2.2.2.1 (hn3 96 (by decide)).2)
            have hHn : HisI (τn.1 103) (updA h r (pkS ((inS b G G.toNat ρ 0 st).1.1 (b + 5)) 15)) (r + 1) := by
              intro q a c
              by_cases hq : q = r
              · subst hq
                refine ⟨?_, fun k e f => by rw [hn1 k e f]; exact hNr k e f⟩
                show (if q = q then (pkS ((inS b G G.toNat ρ 0 st).1.1 (b + 5)) 15) else h q) = _
                rw [if_pos rfl, ← hpv]
                exact pkS_cg 15 (fun k e f => (hn1 k e f).symm)
              · have hx := hHi (by omega) q a (by omega)
                have hy : ∀ k, 0 ≤ k → k < 15 → τn.1 103 (15 * q + k) = τ.1 103 (15 * q + k) := fun k e f => by rw [hn2 (15 * q + k) (by omega), hR']
                refine ⟨?_, fun k e f => by rw [hy k e f]; exact hx.2 k e f⟩
                show (if q = r then (pkS ((inS b G G.toNat ρ 0 st).1.1 (b + 5)) 15) else h q) = _
                rw [if_neg hq, hx.1]
                exact pkS_cg 15 (fun k e f => (hy k e f).symm)
            refine e_iinc (pc' := 114) (L' := [some (rv 88), some (iv ((inS b G G.toNat ρ 0 st).2.1)), some (iv (r + 1)), y3, y4]) dX11_goByTurns_111 rfl rfl (by decide) rfl ?_
            refine e_goto (pc' := 9) dX11_goByTurns_114 (by decide) ?_
            exact ih m (by omega) (r + 1) ((inS b G G.toNat ρ 0 st).2.1) (updA h r (pkS ((inS b G G.toNat ρ 0 st).1.1 (b + 5)) 15)) (inS b G G.toNat ρ 0 st).1 τn _ _ (by omega) (by omega) hMn hG' (hF'.tr (hn3.mono (by decide))) (hK'.tr ⟨hKn, fun j _ => by rw [(hn3 89 (by decide)).1]⟩) (fun _ => hHn) ⟨(inS_st _ _ _ _ _ _ hst (by omega)).1, (inS_st _ _ _ _ _ _ hst (by omega)).2 hfalse⟩ (by rw [hW, ouS_s, if_neg (by rw [hfalse]; decide), if_neg (by rw [wb_upd, hwb]; decide)])
        · have hwb : wbI h (pkS ((inS b G G.toNat ρ 0 st).1.1 (b + 5)) 15) r = true := b2i_1 c2_1
          refine e_iconst (pc' := 99) dX11_goByTurns_98 rfl ?_
          exact e_iret dX11_goByTurns_99 rfl ⟨rfl, Nat.le_refl _⟩ ⟨_, rfl, by rw [hW, ouS_s, if_neg (by rw [hfalse]; decide), if_pos (by rw [wb_upd]; exact hwb)], by rw [hW, ouS_s, if_neg (by rw [hfalse]; decide), if_pos (by rw [wb_upd]; exact hwb)]; exact hM', hF', hK'⟩

set_option maxHeartbeats 4000000 in
set_option maxRecDepth 100000 in
theorem s_m_goByTurns {X : AX} {d : Nat} {σ ρ : SG} {b : Nat} (h : MdI σ ρ b) (hh : Int → Int64) : Ev X 0 0 (d + 8) mX11_goByTurns 0 [some (rv 88), none, none, none, none] [] σ (QI (fun z σ' => z = (trS ρ b hh).2 ∧ MdI σ' (trS ρ b hh).1 b ∧ Fr [88, 89, 92, 93, 94, 95, 96, 97, 98, 99, 101, 102, 103] σ σ' ∧ KG σ σ')) := by
  have ho := h.1
  have hX := h.2.1
  have hP := h.2.2.1
  have hG := ho.1
  have hW := ho.2.1
  refine e_iconst (pc' := 1) dX11_goByTurns_0 rfl ?_
  refine e_istore_n (pc' := 2) (L' := [some (rv 88), some (iv 0), none, none, none]) dX11_goByTurns_1 rfl (by decide) rfl ?_
  refine e_aload_n (pc' := 3) dX11_goByTurns_2 rfl rfl ?_
  refine e_iconst (pc' := 4) dX11_goByTurns_3 rfl ?_
  refine e_cv1v (pc' := 7) dX11_goByTurns_4 rfl k_11_227 h_88 rfl (Nat.le_of_ble_eq_true rfl) rfl rfl ⟨rfl, rfl⟩ ⟨Nat.zero_le _, Nat.zero_le _⟩ (s_m_note 0 ⟨by decide, by decide⟩) ?_
  rintro τ1 ⟨hn1, hn2, hn3⟩
  have hKn : KA σ τ1 := by have e := (hn3 88 (by decide)).1; unfold KA; rw [e]; exact ⟨rfl, rfl, rfl⟩
  have hMn : MdI τ1 ρ b := h.fr (hn3 89 (by decide)).1 (hn3 100 (by decide)).1 hKn (RtI.fr h.2.2.2.2.2.2.1 (hn3 96 (by decide)).2)
  have hHn : HisI (τ1.1 103) (updA hh 0 (pkS (ρ.1 (b + 5)) 15)) 1 := by
    intro q a c
    have hq : q = 0 := by omega
    subst hq
    refine ⟨?_, fun k e f => by rw [hn1 k e f, (hP.2.2.2 k e f).2.2]; exact ho.2.2.2.2.2.2.1 k e f⟩
    show (if (0 : Int) = 0 then pkS (ρ.1 (b + 5)) 15 else hh 0) = _
    rw [if_pos rfl]
    exact pkS_cg 15 (fun k e f => by rw [hn1 k e f, (hP.2.2.2 k e f).2.2])
  refine e_iconst (pc' := 8) dX11_goByTurns_7 rfl ?_
  refine e_istore_n (pc' := 9) (L' := [some (rv 88), some (iv 0), some (iv 1), none, none]) dX11_goByTurns_8 rfl (by decide) rfl ?_
  exact l_gR (σ := σ) hG (trS ρ b hh) 40 1 0 _ ρ τ1 _ _ (by decide) (by decide) hMn rfl (hn3.mono (by decide)) ⟨hKn, fun j _ => by rw [(hn3 89 (by decide)).1]⟩ (fun _ => hHn) (by omega) rfl

set_option maxHeartbeats 4000000 in
set_option maxRecDepth 100000 in
theorem s_m_turns {X : AX} {d : Nat} {σ ρ : SG} {b : Nat} (h : MdI σ ρ b) (hh : Int → Int64) : Ev X 0 0 (d + 9) mX11_turns 0 [some (rv 88)] [] σ (QI (fun z σ' => if (ρ.1 b 6) = 0 then (z = -5 ∧ σ' = σ) else (z = (trS ρ b hh).2 ∧ MdI σ' (trS ρ b hh).1 b ∧ Fr [88, 89, 92, 93, 94, 95, 96, 97, 98, 99, 101, 102, 103] σ σ' ∧ KG σ σ'))) := by
  have ho := h.1
  have hX := h.2.1
  have hP := h.2.2.1
  have hG := ho.1
  have hW := ho.2.1
  refine e_aload_n (pc' := 1) dX11_turns_0 rfl rfl ?_
  refine e_cv0i (pc' := 4) dX11_turns_1 rfl k_11_76 h_88 rfl (Nat.le_of_ble_eq_true rfl) rfl rfl ⟨rfl, rfl⟩ ⟨Nat.zero_le _, Nat.zero_le _⟩ s_m_givers ?_
  intro r σ' hr; rw [hr.1, hr.2, h.2.2.1.1.1]; clear hr
  refine e_ifI (pc' := 7) (t := 12) dX11_turns_4 (by decide) rfl ⟨by omega, by omega⟩ (fun (c2_1 : ((ρ.1 b 6) : Int) ≠ 0) => ?_) (fun (c2_1 : ¬ (((ρ.1 b 6) : Int) ≠ 0)) => ?_)
  · refine e_aload_n (pc' := 13) dX11_turns_12 rfl rfl ?_
    refine e_cv0i (pc' := 16) dX11_turns_13 rfl k_11_233 h_88 rfl (Nat.le_of_ble_eq_true rfl) rfl rfl ⟨rfl, rfl⟩ ⟨Nat.zero_le _, Nat.zero_le _⟩ (s_m_goByTurns h hh) ?_
    rintro z τ1 ⟨hz, hM1, hF1, hK1⟩
    exact e_iret dX11_turns_16 rfl ⟨rfl, Nat.le_refl _⟩ ⟨_, rfl, by dsimp only; rw [if_neg (by omega)]; exact ⟨hz, hM1, hF1, hK1⟩⟩
  · refine e_bipush (pc' := 9) (z := (-5)) dX11_turns_7 rfl (by decide) ?_
    refine e_goto (pc' := 16) dX11_turns_9 (by decide) ?_
    exact e_iret dX11_turns_16 rfl ⟨rfl, Nat.le_refl _⟩ ⟨_, rfl, by dsimp only; rw [if_pos (by omega)]; exact ⟨rfl, rfl⟩⟩
