/-- the first place of the greatest among f 0 .. f n, and that -/
def fbN (f : Int → Int) : Nat → Int × Int
  | 0 => (0, f 0)
  | n + 1 => if (fbN f n).2 < f ((n : Int) + 1) then ((n : Int) + 1, f ((n : Int) + 1)) else fbN f n
def fbI (f : Int → Int) (i : Int) : Int × Int := fbN f i.toNat
theorem fbI_s (f : Int → Int) {i : Int} (h : 1 ≤ i) : fbI f i = if (fbI f (i - 1)).2 < f i then (i, f i) else fbI f (i - 1) := by
  unfold fbI
  rw [show i.toNat = (i - 1).toNat + 1 by omega]
  show (if (fbN f (i - 1).toNat).2 < f (((i - 1).toNat : Int) + 1) then (((i - 1).toNat : Int) + 1, f (((i - 1).toNat : Int) + 1)) else fbN f (i - 1).toNat) = _
  rw [show (((i - 1).toNat : Int) + 1) = i by omega]
theorem fbN_in (f : Int → Int) : ∀ n : Nat, 0 ≤ (fbN f n).1 ∧ (fbN f n).1 ≤ n ∧ (fbN f n).2 = f (fbN f n).1
  | 0 => ⟨Int.le_refl _, Int.le_refl _, rfl⟩
  | n + 1 => by
    have h := fbN_in f n
    unfold fbN
    split
    · refine ⟨?_, ?_, rfl⟩
      · show 0 ≤ (n : Int) + 1; omega
      · show (n : Int) + 1 ≤ ((n + 1 : Nat) : Int); omega
    · refine ⟨h.1, ?_, h.2.2⟩; omega
/-- what a work is worth to all, by its amount -/
def waS (σ : SG) (s : Nat) (w a : Int) : Int := smI (fun g => wcS (σ.1 (s + 2) w) (σ.1 (s + 3) (g * 3 + w)) (σ.1 (s + 4) (g * 3 + w)) a) (σ.1 s 6)
def hbS (σ : SG) (w l a : Int) : Int := σ.1 50 (w * 61 + a) + σ.1 51 ((w + 1) * 261 + l - a)

set_option maxHeartbeats 4000000 in
set_option maxRecDepth 100000 in
theorem s_haveBy {X : AX} {d : Nat} {σ : SG} (w l a : Int) (hw : 0 ≤ w ∧ w < 3) (ha : 0 ≤ a ∧ a ≤ 60) (hl : a ≤ l ∧ l ≤ 260) : Ev X 0 0 d mX1_haveBy 0 [some (rv 49), some (iv w), some (iv l), some (iv a)] [] σ (QI (fun r σ' => σ' = σ ∧ r = hbS σ w l a)) := by
  refine e_aload_n (pc' := 1) dX1_haveBy_0 rfl rfl ?_
  refine e_getR (pc' := 4) dX1_haveBy_1 rfl f_1_11 h_49 rfl ?_
  refine e_iload_n (pc' := 5) dX1_haveBy_4 rfl rfl ?_
  refine e_bipush (pc' := 7) (z := 61) dX1_haveBy_5 rfl (by decide) ?_
  refine e_imul (pc' := 8) dX1_haveBy_7 rfl ?_
  refine e_iload_n (pc' := 9) dX1_haveBy_8 rfl rfl ?_
  refine e_iadd (pc' := 10) dX1_haveBy_9 rfl ?_
  refine e_iald (pc' := 11) (v := (σ.1 50 ((w * 61) + a))) dX1_haveBy_10 rfl h_50 (by decide) (by omega) (by omega) rfl ?_
  refine e_aload_n (pc' := 12) dX1_haveBy_11 rfl rfl ?_
  refine e_getR (pc' := 15) dX1_haveBy_12 rfl f_1_15 h_49 rfl ?_
  refine e_iload_n (pc' := 16) dX1_haveBy_15 rfl rfl ?_
  refine e_iconst (pc' := 17) dX1_haveBy_16 rfl ?_
  refine e_iadd (pc' := 18) dX1_haveBy_17 rfl ?_
  refine e_sipush (pc' := 21) (z := 261) dX1_haveBy_18 rfl (by decide) ?_
  refine e_imul (pc' := 22) dX1_haveBy_21 rfl ?_
  refine e_iload_n (pc' := 23) dX1_haveBy_22 rfl rfl ?_
  refine e_iadd (pc' := 24) dX1_haveBy_23 rfl ?_
  refine e_iload_n (pc' := 25) dX1_haveBy_24 rfl rfl ?_
  refine e_isub (pc' := 26) dX1_haveBy_25 rfl ?_
  refine e_iald (pc' := 27) (v := (σ.1 51 ((((w + 1) * 261) + l) - a))) dX1_haveBy_26 rfl h_51 (by decide) (by omega) (by omega) rfl ?_
  refine e_iadd (pc' := 28) dX1_haveBy_27 rfl ?_
  exact e_iret dX1_haveBy_28 rfl ⟨rfl, Nat.le_refl _⟩ ⟨_, rfl, rfl, rfl⟩

set_option maxHeartbeats 4000000 in
set_option maxRecDepth 100000 in
theorem l_firstBest {X : AX} {d : Nat} {σ : SG} (w l : Int) (hw : 0 ≤ w ∧ w < 3) (hl : 0 ≤ l ∧ l ≤ 260) (hr : ∀ a, 0 ≤ a → a ≤ 60 → a ≤ l → 0 ≤ hbS σ w l a ∧ hbS σ w l a ≤ 100000000) : ∀ (k : Nat) (i fo gr : Int) (x7 : Option AV), 1 ≤ i → i ≤ (min 60 l) + 1 → (min 60 l) + 1 - i < k → (fo, gr) = fbI (hbS σ w l) (i - 1) → Ev X 0 0 (d + 1) mX1_firstBest 22 [some (rv 49), some (iv w), some (iv l), some (iv fo), some (iv gr), some (iv (min 60 l)), some (iv i), x7] [] σ (QI (fun r σ' => σ' = σ ∧ r = (fbI (hbS σ w l) (min 60 l)).1)) := by
  intro k
  induction k with
  | zero => intros; omega
  | succ k ih =>
  intro i fo gr x7 hi0 hi1 hik hf
  have hgr : 0 ≤ gr ∧ gr ≤ 100000000 := by
    have h1 := fbN_in (hbS σ w l) (i - 1).toNat
    have h2 : gr = (fbI (hbS σ w l) (i - 1)).2 := congrArg Prod.snd hf
    rw [h2]
    show 0 ≤ (fbN (hbS σ w l) (i - 1).toNat).2 ∧ (fbN (hbS σ w l) (i - 1).toNat).2 ≤ 100000000
    rw [h1.2.2]
    exact hr _ h1.1 (by omega) (by omega)
  refine e_iload (pc' := 24) dX1_firstBest_22 rfl rfl ?_
  refine e_iload (pc' := 26) dX1_firstBest_24 rfl rfl ?_
  refine e_icmpI (pc' := 29) (t := 59) dX1_firstBest_26 (by decide) rfl ⟨by omega, by omega⟩ ⟨by omega, by omega⟩ (fun (c2_1 : (min 60 l) < (i : Int)) => ?_) (fun (c2_1 : ¬ ((min 60 l) < (i : Int))) => ?_)
  · refine e_iload_n (pc' := 60) dX1_firstBest_59 rfl rfl ?_
    exact e_iret dX1_firstBest_60 rfl ⟨rfl, Nat.le_refl _⟩ ⟨_, rfl, rfl, by rw [show min 60 l = i - 1 by omega, ← hf]⟩
  · refine e_aload_n (pc' := 30) dX1_firstBest_29 rfl rfl ?_
    refine e_iload_n (pc' := 31) dX1_firstBest_30 rfl rfl ?_
    refine e_iload_n (pc' := 32) dX1_firstBest_31 rfl rfl ?_
    refine e_iload (pc' := 34) dX1_firstBest_32 rfl rfl ?_
    refine e_cv3i (pc' := 37) dX1_firstBest_34 rfl k_1_50 h_49 rfl (Nat.le_of_ble_eq_true rfl) rfl rfl ⟨rfl, rfl⟩ ⟨Nat.zero_le _, Nat.zero_le _⟩ (s_haveBy w l i hw ⟨by omega, by omega⟩ ⟨by omega, by omega⟩) ?_
    intro r σ' hr; rw [hr.1, hr.2]; clear hr
    refine e_istore (pc' := 39) (L' := [some (rv 49), some (iv w), some (iv l), some (iv fo), some (iv gr), some (iv (min 60 l)), some (iv i), some (iv (hbS σ w l i))]) dX1_firstBest_37 rfl (by decide) rfl ?_
    have hri := hr i (by omega) (by omega) (by omega)
    refine e_iload (pc' := 41) dX1_firstBest_39 rfl rfl ?_
    refine e_iload (pc' := 43) dX1_firstBest_41 rfl rfl ?_
    refine e_icmpI (pc' := 46) (t := 53) dX1_firstBest_43 (by decide) rfl ⟨by omega, by omega⟩ ⟨by omega, by omega⟩ (fun (c4_2 : ((hbS σ w l i) : Int) ≤ gr) => ?_) (fun (c4_2 : ¬ (((hbS σ w l i) : Int) ≤ gr)) => ?_)
    · refine e_iinc (pc' := 56) (L' := [some (rv 49), some (iv w), some (iv l), some (iv fo), some (iv gr), some (iv (min 60 l)), some (iv (i + 1)), some (iv (hbS σ w l i))]) dX1_firstBest_53 rfl rfl (by decide) rfl ?_
      refine e_goto (pc' := 22) dX1_firstBest_56 (by decide) ?_
      exact ih _ _ _ _ (by omega) (by omega) (by omega) (by rw [show i + 1 - 1 = i by omega, fbI_s _ (by omega), ← hf]; first | (rw [if_pos (by show gr < _; omega)]) | (rw [if_neg (by show ¬ gr < _; omega)]))
    · refine e_iload (pc' := 48) dX1_firstBest_46 rfl rfl ?_
      refine e_istore (pc' := 50) (L' := [some (rv 49), some (iv w), some (iv l), some (iv fo), some (iv (hbS σ w l i)), some (iv (min 60 l)), some (iv i), some (iv (hbS σ w l i))]) dX1_firstBest_48 rfl (by decide) rfl ?_
      refine e_iload (pc' := 52) dX1_firstBest_50 rfl rfl ?_
      refine e_istore_n (pc' := 53) (L' := [some (rv 49), some (iv w), some (iv l), some (iv i), some (iv (hbS σ w l i)), some (iv (min 60 l)), some (iv i), some (iv (hbS σ w l i))]) dX1_firstBest_52 rfl (by decide) rfl ?_
      refine e_iinc (pc' := 56) (L' := [some (rv 49), some (iv w), some (iv l), some (iv i), some (iv (hbS σ w l i)), some (iv (min 60 l)), some (iv (i + 1)), some (iv (hbS σ w l i))]) dX1_firstBest_53 rfl rfl (by decide) rfl ?_
      refine e_goto (pc' := 22) dX1_firstBest_56 (by decide) ?_
      exact ih _ _ _ _ (by omega) (by omega) (by omega) (by rw [show i + 1 - 1 = i by omega, fbI_s _ (by omega), ← hf]; first | (rw [if_pos (by show gr < _; omega)]) | (rw [if_neg (by show ¬ gr < _; omega)]))

set_option maxHeartbeats 4000000 in
set_option maxRecDepth 100000 in
theorem s_firstBest {X : AX} {d : Nat} {σ : SG} (w l : Int) (hw : 0 ≤ w ∧ w < 3) (hl : 0 ≤ l ∧ l ≤ 260) (hr : ∀ a, 0 ≤ a → a ≤ 60 → a ≤ l → 0 ≤ hbS σ w l a ∧ hbS σ w l a ≤ 100000000) : Ev X 0 0 (d + 1) mX1_firstBest 0 [some (rv 49), some (iv w), some (iv l), none, none, none, none, none] [] σ (QI (fun r σ' => σ' = σ ∧ r = (fbI (hbS σ w l) (min 60 l)).1)) := by
  refine e_iconst (pc' := 1) dX1_firstBest_0 rfl ?_
  refine e_istore_n (pc' := 2) (L' := [some (rv 49), some (iv w), some (iv l), some (iv 0), none, none, none, none]) dX1_firstBest_1 rfl (by decide) rfl ?_
  refine e_aload_n (pc' := 3) dX1_firstBest_2 rfl rfl ?_
  refine e_iload_n (pc' := 4) dX1_firstBest_3 rfl rfl ?_
  refine e_iload_n (pc' := 5) dX1_firstBest_4 rfl rfl ?_
  refine e_iconst (pc' := 6) dX1_firstBest_5 rfl ?_
  refine e_cv3i (pc' := 9) dX1_firstBest_6 rfl k_1_50 h_49 rfl (Nat.le_of_ble_eq_true rfl) rfl rfl ⟨rfl, rfl⟩ ⟨Nat.zero_le _, Nat.zero_le _⟩ (s_haveBy w l 0 hw ⟨by omega, by omega⟩ ⟨by omega, by omega⟩) ?_
  intro r σ' hr; rw [hr.1, hr.2]; clear hr
  refine e_istore (pc' := 11) (L' := [some (rv 49), some (iv w), some (iv l), some (iv 0), some (iv (hbS σ w l 0)), none, none, none]) dX1_firstBest_9 rfl (by decide) rfl ?_
  refine e_bipush (pc' := 13) (z := 60) dX1_firstBest_11 rfl (by decide) ?_
  refine e_iload_n (pc' := 14) dX1_firstBest_13 rfl rfl ?_
  refine e_min (pc' := 17) dX1_firstBest_14 rfl p_1_31 ⟨by omega, by omega⟩ ⟨by omega, by omega⟩ (Nat.le_of_ble_eq_true rfl) ⟨Nat.zero_le _, Nat.zero_le _⟩ ?_
  refine e_istore (pc' := 19) (L' := [some (rv 49), some (iv w), some (iv l), some (iv 0), some (iv (hbS σ w l 0)), some (iv (min 60 l)), none, none]) dX1_firstBest_17 rfl (by decide) rfl ?_
  refine e_iconst (pc' := 20) dX1_firstBest_19 rfl ?_
  refine e_istore (pc' := 22) (L' := [some (rv 49), some (iv w), some (iv l), some (iv 0), some (iv (hbS σ w l 0)), some (iv (min 60 l)), some (iv 1), none]) dX1_firstBest_20 rfl (by decide) rfl ?_
  exact l_firstBest w l hw hl hr 62 _ _ _ _ (by omega) (by omega) (by omega) rfl

set_option maxHeartbeats 4000000 in
set_option maxRecDepth 100000 in
theorem l_fwG {X : AX} {d : Nat} {σ : SG} (ho : ScOK σ 1) (w : Int) (hw : 0 ≤ w ∧ w < 3) (a : Int) (ha : 0 ≤ a ∧ a ≤ 60) (τ : SG) (hF : Fr [50] σ τ) (hK : ∀ y5 : Option AV, Ev X 0 0 (d + 2) mX1_fillWorths 42 [some (rv 49), some (rv 1), some (iv w), some (iv a), some (iv (waS σ 1 w a)), y5] [] τ (QV (fun σ' => (∀ a, 0 ≤ a → a ≤ 60 → σ'.1 50 (w * 61 + a) = waS σ 1 w a) ∧ (∀ j, ¬ (w * 61 ≤ j ∧ j ≤ w * 61 + 60) → σ'.1 50 j = σ.1 50 j) ∧ Fr [50] σ σ'))) : ∀ (k : Nat) (g cs : Int), 0 ≤ g → g ≤ σ.1 1 6 → σ.1 1 6 - g < k → cs = smI (fun g => wcS (σ.1 3 w) (σ.1 4 (g * 3 + w)) (σ.1 5 (g * 3 + w)) a) g → Ev X 0 0 (d + 2) mX1_fillWorths 14 [some (rv 49), some (rv 1), some (iv w), some (iv a), some (iv cs), some (iv g)] [] τ (QV (fun σ' => (∀ a, 0 ≤ a → a ≤ 60 → σ'.1 50 (w * 61 + a) = waS σ 1 w a) ∧ (∀ j, ¬ (w * 61 ≤ j ∧ j ≤ w * 61 + 60) → σ'.1 50 j = σ.1 50 j) ∧ Fr [50] σ σ')) := by
  intro k
  induction k with
  | zero => intros; omega
  | succ k ih =>
  intro g cs hg0 hg1 hgk hc
  have hoτ : ScOK τ 1 := ho.cg (fun k h1 h2 => (hF k (by simp only [List.mem_cons, List.not_mem_nil, or_false]; omega)).1)
  have h6 := ho.1
  refine e_iload (pc' := 16) dX1_fillWorths_14 rfl rfl ?_
  refine e_aload_n (pc' := 17) dX1_fillWorths_16 rfl rfl ?_
  refine e_getI (pc' := 20) (v := (σ.1 1 6)) dX1_fillWorths_17 rfl f_1_57 h_1 rfl ((congrFun (hF 1 (by decide)).1 6).trans rfl) ?_
  refine e_icmpI (pc' := 23) (t := 42) dX1_fillWorths_20 (by decide) rfl ⟨by omega, by omega⟩ ⟨by omega, by omega⟩ (fun (c2_1 : (σ.1 1 6) ≤ (g : Int)) => ?_) (fun (c2_1 : ¬ ((σ.1 1 6) ≤ (g : Int))) => ?_)
  · have e : waS σ 1 w a = cs := by rw [hc]; unfold waS; congr 1; omega
    rw [← e]
    exact hK _
  · refine e_iload (pc' := 25) dX1_fillWorths_23 rfl rfl ?_
    refine e_aload_n (pc' := 26) dX1_fillWorths_25 rfl rfl ?_
    refine e_iload (pc' := 28) dX1_fillWorths_26 rfl rfl ?_
    refine e_iload_n (pc' := 29) dX1_fillWorths_28 rfl rfl ?_
    refine e_iload_n (pc' := 30) dX1_fillWorths_29 rfl rfl ?_
    refine e_cv3i (pc' := 33) dX1_fillWorths_30 rfl k_1_60 h_1 rfl (Nat.le_of_ble_eq_true rfl) rfl rfl ⟨rfl, rfl⟩ ⟨Nat.zero_le _, Nat.zero_le _⟩ (s_worthOf_1 (σ := τ) g w a ⟨by omega, by omega⟩ hw ⟨by omega, by omega⟩ (hoτ.2.2.2.2.2.2.2.1 w hw.1 hw.2) (hoτ.2.2.2.2.2.2.2.2.1 (g * 3 + w) (by omega) (by omega)) (hoτ.2.2.2.2.2.2.2.2.2.1 (g * 3 + w) (by omega) (by omega))) ?_
    intro r σ' hr; rw [hr.1, hr.2]; clear hr σ'
    rw [(hF 3 (by decide)).1, (hF 4 (by decide)).1, (hF 5 (by decide)).1]
    refine e_iadd (pc' := 34) dX1_fillWorths_33 rfl ?_
    refine e_istore (pc' := 36) (L' := [some (rv 49), some (rv 1), some (iv w), some (iv a), some (iv (cs + (wcS (σ.1 3 w) (σ.1 4 (g * 3 + w)) (σ.1 5 (g * 3 + w)) a))), some (iv g)]) dX1_fillWorths_34 rfl (by decide) rfl ?_
    refine e_iinc (pc' := 39) (L' := [some (rv 49), some (rv 1), some (iv w), some (iv a), some (iv (cs + (wcS (σ.1 3 w) (σ.1 4 (g * 3 + w)) (σ.1 5 (g * 3 + w)) a))), some (iv (g + 1))]) dX1_fillWorths_36 rfl rfl (by decide) rfl ?_
    refine e_goto (pc' := 14) dX1_fillWorths_39 (by decide) ?_
    exact ih _ _ (by omega) (by omega) (by omega) (by rw [smI_s _ (by omega), hc])

set_option maxHeartbeats 4000000 in
set_option maxRecDepth 100000 in
theorem l_fwA {X : AX} {d : Nat} {σ : SG} (ho : ScOK σ 1) (w : Int) (hw : 0 ≤ w ∧ w < 3) : ∀ (k : Nat) (a : Int) (τ : SG) (x4 x5 : Option AV), 0 ≤ a → a ≤ 61 → 61 - a < k → (∀ a', 0 ≤ a' → a' < a → τ.1 50 (w * 61 + a') = waS σ 1 w a') → (∀ j, ¬ (w * 61 ≤ j ∧ j ≤ w * 61 + 60) → τ.1 50 j = σ.1 50 j) → Fr [50] σ τ → Ev X 0 0 (d + 2) mX1_fillWorths 2 [some (rv 49), some (rv 1), some (iv w), some (iv a), x4, x5] [] τ (QV (fun σ' => (∀ a, 0 ≤ a → a ≤ 60 → σ'.1 50 (w * 61 + a) = waS σ 1 w a) ∧ (∀ j, ¬ (w * 61 ≤ j ∧ j ≤ w * 61 + 60) → σ'.1 50 j = σ.1 50 j) ∧ Fr [50] σ σ')) := by
  intro k
  induction k with
  | zero => intros; omega
  | succ k ih =>
  intro a τ x4 x5 ha0 ha1 hak hA hB hF
  refine e_iload_n (pc' := 3) dX1_fillWorths_2 rfl rfl ?_
  refine e_bipush (pc' := 5) (z := 61) dX1_fillWorths_3 rfl (by decide) ?_
  refine e_icmpI (pc' := 8) (t := 61) dX1_fillWorths_5 (by decide) rfl ⟨by omega, by omega⟩ ⟨by omega, by omega⟩ (fun (c2_1 : 61 ≤ (a : Int)) => ?_) (fun (c2_1 : ¬ (61 ≤ (a : Int))) => ?_)
  · exact e_vret dX1_fillWorths_61 rfl ⟨rfl, Nat.le_refl _⟩ ⟨rfl, fun a' p q => hA a' p (by omega), hB, hF⟩
  · refine e_iconst (pc' := 9) dX1_fillWorths_8 rfl ?_
    refine e_istore (pc' := 11) (L' := [some (rv 49), some (rv 1), some (iv w), some (iv a), some (iv 0), x5]) dX1_fillWorths_9 rfl (by decide) rfl ?_
    refine e_iconst (pc' := 12) dX1_fillWorths_11 rfl ?_
    refine e_istore (pc' := 14) (L' := [some (rv 49), some (rv 1), some (iv w), some (iv a), some (iv 0), some (iv 0)]) dX1_fillWorths_12 rfl (by decide) rfl ?_
    have h6 := ho.1
    refine l_fwG ho w hw a (by omega) τ hF (fun y5 => ?_) (σ.1 1 6 + 1).toNat 0 0 (by omega) (by omega) (by omega) rfl
    refine e_aload_n (pc' := 43) dX1_fillWorths_42 rfl rfl ?_
    refine e_getR (pc' := 46) dX1_fillWorths_43 rfl f_1_11 h_49 rfl ?_
    refine e_iload_n (pc' := 47) dX1_fillWorths_46 rfl rfl ?_
    refine e_bipush (pc' := 49) (z := 61) dX1_fillWorths_47 rfl (by decide) ?_
    refine e_imul (pc' := 50) dX1_fillWorths_49 rfl ?_
    refine e_iload_n (pc' := 51) dX1_fillWorths_50 rfl rfl ?_
    refine e_iadd (pc' := 52) dX1_fillWorths_51 rfl ?_
    refine e_iload (pc' := 54) dX1_fillWorths_52 rfl rfl ?_
    refine e_iast (pc' := 55) dX1_fillWorths_54 rfl h_50 (by decide) (by omega) (by omega) ?_
    refine e_iinc (pc' := 58) (L' := [some (rv 49), some (rv 1), some (iv w), some (iv (a + 1)), some (iv (waS σ 1 w a)), y5]) dX1_fillWorths_55 rfl rfl (by decide) rfl ?_
    refine e_goto (pc' := 2) dX1_fillWorths_58 (by decide) ?_
    refine ih _ _ _ _ (by omega) (by omega) (by omega) (fun a' p q => ?_) (fun j hj => ?_) (fr_I hF (by decide))
    · show (if 50 = 50 ∧ w * 61 + a' = w * 61 + a then _ else τ.1 50 (w * 61 + a')) = _
      by_cases hq : a' = a
      · rw [if_pos ⟨rfl, by omega⟩, hq]
      · rw [if_neg (fun z => hq (by omega)), hA a' p (by omega)]
    · show (if 50 = 50 ∧ j = w * 61 + a then _ else τ.1 50 j) = _
      rw [if_neg (fun z => hj (by omega)), hB j hj]

set_option maxHeartbeats 4000000 in
set_option maxRecDepth 100000 in
theorem s_fillWorths {X : AX} {d : Nat} {σ : SG} (ho : ScOK σ 1) (w : Int) (hw : 0 ≤ w ∧ w < 3) : Ev X 0 0 (d + 2) mX1_fillWorths 0 [some (rv 49), some (rv 1), some (iv w), none, none, none] [] σ (QV (fun σ' => (∀ a, 0 ≤ a → a ≤ 60 → σ'.1 50 (w * 61 + a) = waS σ 1 w a) ∧ (∀ j, ¬ (w * 61 ≤ j ∧ j ≤ w * 61 + 60) → σ'.1 50 j = σ.1 50 j) ∧ Fr [50] σ σ')) := by
  refine e_iconst (pc' := 1) dX1_fillWorths_0 rfl ?_
  refine e_istore_n (pc' := 2) (L' := [some (rv 49), some (rv 1), some (iv w), some (iv 0), none, none]) dX1_fillWorths_1 rfl (by decide) rfl ?_
  exact l_fwA ho w hw 62 _ σ _ _ (by omega) (by omega) (by omega) (fun a' p q => by omega) (fun j _ => rfl) Fr.rf
