/-! the purse parted, as the reference does it -/
theorem spr_s (p : Int) (u : Int → Int) (b : Int) : spr p u (b + 1) = spr p u b - opn u b := by
  unfold spr opn
  by_cases h0 : u 0 ≤ b <;> by_cases h1 : u 1 ≤ b <;> by_cases h2 : u 2 ≤ b <;> simp only [h0, h1, h2, if_true, if_false] <;> omega
theorem spr_anti {p : Int} {u : Int → Int} {b c : Int} (h : b ≤ c) : spr p u c ≤ spr p u b := by
  unfold spr
  omega
theorem opn_pos {p : Int} {u : Int → Int} {b : Int} (hs : 0 ≤ spr p u b) (hall : p < u 0 + u 1 + u 2) : 0 < opn u b := by
  unfold spr at hs
  unfold opn
  by_cases h0 : u 0 ≤ b <;> by_cases h1 : u 1 ≤ b <;> by_cases h2 : u 2 ≤ b <;> simp only [h0, h1, h2, if_true, if_false] <;> omega
theorem bst_stay {p : Int} {u : Int → Int} {b : Int} (hs : 0 ≤ spr p u b) (hall : p < u 0 + u 1 + u 2) (h : spr p u (b + 1) < 0) : bst p u b = b := by
  have hp := opn_pos hs hall
  rw [spr_s] at h
  unfold bst
  rw [if_pos hp, Int.ediv_eq_zero_of_lt hs (by omega)]
  omega
theorem bst_up {p : Int} {u : Int → Int} {b : Int} (hs : 0 ≤ spr p u b) (hall : p < u 0 + u 1 + u 2) : spr p u (bst p u b + 1) < 0 ∨ opn u (bst p u b) < opn u b := by
  have hp := opn_pos hs hall
  have hr := opn_rg u b
  have hb : bst p u b = b + spr p u b / opn u b := by unfold bst; rw [if_pos hp]
  obtain ⟨q, hq⟩ : ∃ q, q = spr p u b / opn u b := ⟨_, rfl⟩
  obtain ⟨o, ho⟩ : ∃ o, o = opn u b := ⟨_, rfl⟩
  obtain ⟨s, hsd⟩ : ∃ s, s = spr p u b := ⟨_, rfl⟩
  have hq1 : o * q ≤ s ∧ s < o * q + o ∧ 0 ≤ q := by
    rw [hq, ← ho, ← hsd]
    rw [← ho] at hp
    rw [← hsd] at hs
    have h1 := Int.mul_ediv_add_emod s o
    have h2 := Int.emod_nonneg s (show o ≠ 0 by omega)
    have h3 := Int.emod_lt_of_pos s hp
    have h4 := Int.ediv_nonneg hs (show 0 ≤ o by omega)
    omega
  rw [hb, ← hq]
  rw [← ho] at hp hr ⊢
  by_cases hc : opn u (b + q) < o
  · exact Or.inr hc
  · left
    clear hb hq
    have ho3 : o = 1 ∨ o = 2 ∨ o = 3 := by omega
    unfold opn at hc ho
    unfold spr at hsd ⊢
    by_cases h0 : u 0 ≤ b <;> by_cases h1 : u 1 ≤ b <;> by_cases h2 : u 2 ≤ b <;> simp only [h0, h1, h2, if_true, if_false] at ho <;> by_cases g0 : u 0 ≤ b + q <;> by_cases g1 : u 1 ≤ b + q <;> by_cases g2 : u 2 ≤ b + q <;> simp only [g0, g1, g2, if_true, if_false] at hc <;> rcases ho3 with e | e | e <;> subst e <;> omega
theorem bN_p {p : Int} {u : Int → Int} (hp : 0 ≤ p) (hp2 : p ≤ 200) (h0 : 0 ≤ u 0) (h1 : 0 ≤ u 1) (h2 : 0 ≤ u 2) (hall : p < u 0 + u 1 + u 2) : ∀ n : Nat, n ≤ 3 → spr p u (bN p u n + 1) < 0 ∨ opn u (bN p u n) ≤ 3 - n
  | 0, _ => Or.inr (by have := (opn_rg u (bN p u 0)).2; omega)
  | n + 1, h => by
    have hs := (bN_ok hp hp2 h0 h1 h2 n).1
    have e : bN p u (n + 1) = bst p u (bN p u n) := rfl
    rcases bN_p hp hp2 h0 h1 h2 hall n (by omega) with q | q
    · left
      rw [e, bst_stay hs hall q]
      exact q
    · rcases bst_up hs hall with r | r
      · left; rw [e]; exact r
      · right; rw [e]; omega
theorem bN_max {p : Int} {u : Int → Int} (hp : 0 ≤ p) (hp2 : p ≤ 200) (h0 : 0 ≤ u 0) (h1 : 0 ≤ u 1) (h2 : 0 ≤ u 2) (hall : p < u 0 + u 1 + u 2) : spr p u (bN p u 3 + 1) < 0 := by
  rcases bN_p hp hp2 h0 h1 h2 hall 3 (by decide) with q | q
  · exact q
  · have := opn_pos (bN_ok hp hp2 h0 h1 h2 3).1 hall
    omega
theorem bound_eq {p : Int} {u : Int → Int} (hp : 0 ≤ p) (hp2 : p ≤ 200) (h0 : 0 ≤ u 0 ∧ u 0 ≤ 99) (h1 : 0 ≤ u 1 ∧ u 1 ≤ 99) (h2 : 0 ≤ u 2 ∧ u 2 ≤ 99) (hall : p < u 0 + u 1 + u 2) {B : Int} (hB : 0 ≤ spr p u B) (hm : ∀ x, B < x → x ≤ 99 → spr p u x < 0) : B = bN p u 3 := by
  have hmax := bN_max hp hp2 h0.1 h1.1 h2.1 hall
  have hok := bN_ok hp hp2 h0.1 h1.1 h2.1 3
  have h98 : bN p u 3 < 99 := by
    apply Classical.byContradiction
    intro q
    have h := hok.1
    unfold spr at h
    omega
  by_cases a : B < bN p u 3
  · have := hm (bN p u 3) a (by omega)
    omega
  · by_cases b : B = bN p u 3
    · exact b
    · have := spr_anti (p := p) (u := u) (b := bN p u 3 + 1) (c := B) (by omega)
      omega
def lfS (p : Int) (u : Int → Int) : Nat → Int
  | 0 => p
  | n + 1 => lfS p u n - min (u n) (lfS p u n)
theorem adS_0 {p : Int} {u : Int → Int} {i : Int} (h : p < u 0 + u 1 + u 2) : adS 0 p u i = shS p (u 0 + u 1 + u 2) (u i) := by
  unfold adS
  rw [if_neg (by omega), if_pos rfl]
theorem adS_1 {p : Int} {u : Int → Int} {i : Int} (hi : 0 ≤ i ∧ i < 3) (h : p < u 0 + u 1 + u 2) : adS 1 p u i = min (u i) (lfS p u i.toNat) := by
  unfold adS
  rw [if_neg (by omega), if_neg (by decide), if_pos rfl]
  have hc : i = 0 ∨ i = 1 ∨ i = 2 := by omega
  rcases hc with rfl | rfl | rfl <;> rfl
theorem adS_2 {p : Int} {u : Int → Int} {i : Int} (h : p < u 0 + u 1 + u 2) : adS 2 p u i = min (u i) (bN p u 3) := by
  unfold adS
  rw [if_neg (by omega), if_neg (by decide), if_neg (by decide)]
theorem sm_3 {f u : Int → Int} {k : Int} (hk : 0 ≤ k ∧ k ≤ 3) (h : ∀ w, 0 ≤ w → w < k → f w = u w) (h0 : ∀ w, k ≤ w → w < 3 → u w = 0) : smI f k = u 0 + u 1 + u 2 := by
  have hc : k = 0 ∨ k = 1 ∨ k = 2 ∨ k = 3 := by omega
  rcases hc with rfl | rfl | rfl | rfl
  · show (0 : Int) = _
    rw [h0 0 (by omega) (by omega), h0 1 (by omega) (by omega), h0 2 (by omega) (by omega)]
    rfl
  · show 0 + f 0 = _
    rw [h 0 (by omega) (by omega), h0 1 (by omega) (by omega), h0 2 (by omega) (by omega)]
    omega
  · show 0 + f 0 + f 1 = _
    rw [h 0 (by omega) (by omega), h 1 (by omega) (by omega), h0 2 (by omega) (by omega)]
    omega
  · show 0 + f 0 + f 1 + f 2 = _
    rw [h 0 (by omega) (by omega), h 1 (by omega) (by omega), h 2 (by omega) (by omega)]
    omega

theorem lfS_rg {p : Int} {u : Int → Int} (hp : 0 ≤ p) (hu : ∀ w, 0 ≤ w → w < 3 → 0 ≤ u w) : ∀ n : Nat, n ≤ 3 → 0 ≤ lfS p u n ∧ lfS p u n ≤ p
  | 0, _ => ⟨hp, Int.le_refl _⟩
  | n + 1, h => by
    have ih := lfS_rg hp hu n (by omega)
    have := hu n (by omega) (by omega)
    show 0 ≤ lfS p u n - min (u n) (lfS p u n) ∧ lfS p u n - min (u n) (lfS p u n) ≤ p
    omega

set_option maxHeartbeats 4000000 in
set_option maxRecDepth 100000 in
theorem l_below {X : AX} {d : Nat} {σ : SG} (u : Int → Int) (wk : Int) (hwkr : 0 ≤ wk ∧ wk ≤ 3) (hwk : σ.1 89 181 = wk) (hu : ∀ w, 0 ≤ w → w < wk → σ.1 97 w = u w) (hu0 : (∀ w, wk ≤ w → w < 3 → u w = 0) ∧ ∀ w, 0 ≤ w → w < 3 → 0 ≤ u w ∧ u w ≤ 99) (bd : Int) (hbd : 0 ≤ bd ∧ bd ≤ 99) : ∀ (k : Nat) (i cs : Int), 0 ≤ i → i ≤ wk → wk - i < k → cs = smI (fun w => min (u w) bd) i → Ev X 0 0 (d + 1) mX11_below 4 [some (rv 88), some (iv bd), some (iv cs), some (iv i)] [] σ (QI (fun r σ' => σ' = σ ∧ r = min (u 0) bd + min (u 1) bd + min (u 2) bd)) := by
  intro k
  induction k with
  | zero => intros; omega
  | succ k ih =>
  intro i cs hi0 hi1 hik hc
  refine e_iload_n (pc' := 5) dX11_below_4 rfl rfl ?_
  refine e_aload_n (pc' := 6) dX11_below_5 rfl rfl ?_
  refine e_cv0i (pc' := 9) dX11_below_6 rfl k_11_84 h_88 rfl (Nat.le_of_ble_eq_true rfl) rfl rfl ⟨rfl, rfl⟩ ⟨Nat.zero_le _, Nat.zero_le _⟩ s_m_works ?_
  intro r σ' hr; rw [hr.1, hr.2, hwk]; clear hr
  refine e_icmpI (pc' := 12) (t := 41) dX11_below_9 (by decide) rfl ⟨by omega, by omega⟩ ⟨by omega, by omega⟩ (fun (c2_1 : wk ≤ (i : Int)) => ?_) (fun (c2_1 : ¬ (wk ≤ (i : Int))) => ?_)
  · refine e_iload_n (pc' := 42) dX11_below_41 rfl rfl ?_
    exact e_iret dX11_below_42 rfl ⟨rfl, Nat.le_refl _⟩ ⟨_, rfl, rfl, by rw [hc, show i = wk by omega]; exact sm_3 (u := fun w => min (u w) bd) hwkr (fun _ _ _ => rfl) (fun w a b => by have q := hu0.1 w a b; show min (u w) bd = 0; rw [q]; omega)⟩
  · have hur := hu0.2 i (by omega) (by omega)
    refine e_iload_n (pc' := 13) dX11_below_12 rfl rfl ?_
    refine e_aload_n (pc' := 14) dX11_below_13 rfl rfl ?_
    refine e_getR (pc' := 17) dX11_below_14 rfl f_11_36 h_88 rfl ?_
    refine e_iload_n (pc' := 18) dX11_below_17 rfl rfl ?_
    refine e_iald (pc' := 19) (v := (u i)) dX11_below_18 rfl h_97 (by decide) (by omega) (by omega) (hu i (by omega) (by omega)) ?_
    refine e_iload_n (pc' := 20) dX11_below_19 rfl rfl ?_
    refine e_icmpI (pc' := 23) (t := 32) dX11_below_20 (by decide) rfl ⟨by omega, by omega⟩ ⟨by omega, by omega⟩ (fun (c4_2 : bd ≤ ((u i) : Int)) => ?_) (fun (c4_2 : ¬ (bd ≤ ((u i) : Int))) => ?_)
    · refine e_iload_n (pc' := 33) dX11_below_32 rfl rfl ?_
      refine e_iadd (pc' := 34) dX11_below_33 rfl ?_
      refine e_istore_n (pc' := 35) (L' := [some (rv 88), some (iv bd), some (iv (cs + bd)), some (iv i)]) dX11_below_34 rfl (by decide) rfl ?_
      refine e_iinc (pc' := 38) (L' := [some (rv 88), some (iv bd), some (iv (cs + bd)), some (iv (i + 1))]) dX11_below_35 rfl rfl (by decide) rfl ?_
      refine e_goto (pc' := 4) dX11_below_38 (by decide) ?_
      exact ih _ _ (by omega) (by omega) (by omega) (by rw [smI_s _ hi0, hc]; congr 1; omega)
    · refine e_aload_n (pc' := 24) dX11_below_23 rfl rfl ?_
      refine e_getR (pc' := 27) dX11_below_24 rfl f_11_36 h_88 rfl ?_
      refine e_iload_n (pc' := 28) dX11_below_27 rfl rfl ?_
      refine e_iald (pc' := 29) (v := (u i)) dX11_below_28 rfl h_97 (by decide) (by omega) (by omega) (hu i (by omega) (by omega)) ?_
      refine e_goto (pc' := 33) dX11_below_29 (by decide) ?_
      refine e_iadd (pc' := 34) dX11_below_33 rfl ?_
      refine e_istore_n (pc' := 35) (L' := [some (rv 88), some (iv bd), some (iv (cs + (u i))), some (iv i)]) dX11_below_34 rfl (by decide) rfl ?_
      refine e_iinc (pc' := 38) (L' := [some (rv 88), some (iv bd), some (iv (cs + (u i))), some (iv (i + 1))]) dX11_below_35 rfl rfl (by decide) rfl ?_
      refine e_goto (pc' := 4) dX11_below_38 (by decide) ?_
      exact ih _ _ (by omega) (by omega) (by omega) (by rw [smI_s _ hi0, hc]; congr 1; omega)

set_option maxHeartbeats 4000000 in
set_option maxRecDepth 100000 in
theorem s_m_below {X : AX} {d : Nat} {σ : SG} (u : Int → Int) (wk : Int) (hwkr : 0 ≤ wk ∧ wk ≤ 3) (hwk : σ.1 89 181 = wk) (hu : ∀ w, 0 ≤ w → w < wk → σ.1 97 w = u w) (hu0 : (∀ w, wk ≤ w → w < 3 → u w = 0) ∧ ∀ w, 0 ≤ w → w < 3 → 0 ≤ u w ∧ u w ≤ 99) (bd : Int) (hbd : 0 ≤ bd ∧ bd ≤ 99) : Ev X 0 0 (d + 1) mX11_below 0 [some (rv 88), some (iv bd), none, none] [] σ (QI (fun r σ' => σ' = σ ∧ r = min (u 0) bd + min (u 1) bd + min (u 2) bd)) := by
  refine e_iconst (pc' := 1) dX11_below_0 rfl ?_
  refine e_istore_n (pc' := 2) (L' := [some (rv 88), some (iv bd), some (iv 0), none]) dX11_below_1 rfl (by decide) rfl ?_
  refine e_iconst (pc' := 3) dX11_below_2 rfl ?_
  refine e_istore_n (pc' := 4) (L' := [some (rv 88), some (iv bd), some (iv 0), some (iv 0)]) dX11_below_3 rfl (by decide) rfl ?_
  exact l_below u wk hwkr hwk hu hu0 bd hbd (wk + 1).toNat _ _ (by omega) (by omega) (by omega) rfl

set_option maxHeartbeats 4000000 in
set_option maxRecDepth 100000 in
theorem l_part2 {X : AX} {d : Nat} {σ : SG} (u : Int → Int) (wk : Int) (hwkr : 0 ≤ wk ∧ wk ≤ 3) (hwk : σ.1 89 181 = wk) (hu : ∀ w, 0 ≤ w → w < wk → σ.1 97 w = u w) (hu0 : (∀ w, wk ≤ w → w < 3 → u w = 0) ∧ ∀ w, 0 ≤ w → w < 3 → 0 ≤ u w ∧ u w ≤ 99) (p md all : Int) (hp : 0 ≤ p ∧ p ≤ 200) (hmd : 0 ≤ md ∧ md ≤ 2) (hmde : σ.1 89 56 = md) (halle : all = u 0 + u 1 + u 2) (hall : p < all) (bd : Int) (hbd : 0 ≤ bd ∧ bd ≤ 99) (hbde : md = 2 → bd = bN p u 3) : ∀ (k : Nat) (i left : Int) (τ : SG), 0 ≤ i → i ≤ wk → wk - i < k → left = (if md = 1 then lfS p u i.toNat else p) → (∀ w, 0 ≤ w → w < i → τ.1 98 w = adS md p u w) → Fr [98] σ τ → Ev X 0 0 (d + 2) mX11_part 35 [some (rv 88), some (iv all), some (iv p), some (iv bd), some (iv left), some (iv i)] [] τ (QV (fun σ' => (∀ w, 0 ≤ w → w < wk → σ'.1 98 w = adS md p u w) ∧ Fr [98] σ σ')) := by
  intro k
  induction k with
  | zero => intros; omega
  | succ k ih =>
  intro i left τ hi0 hi1 hik hlf hA hF
  have hwk0 := hwk
  have a0 := hu0.2 0 (by decide) (by decide)
  have a1 := hu0.2 1 (by decide) (by decide)
  have a2 := hu0.2 2 (by decide) (by decide)
  have hmd1 : τ.1 89 56 = md := by rw [(hF 89 (by decide)).1]; exact hmde
  replace hwk : τ.1 89 181 = wk := by rw [(hF 89 (by decide)).1]; exact hwk0
  have hlfr : rg left := by
    rw [hlf]
    split
    · have h := lfS_rg hp.1 (fun w a b => (hu0.2 w a b).1) i.toNat (by omega)
      exact ⟨by omega, by omega⟩
    · exact ⟨by omega, by omega⟩
  refine e_iload (pc' := 37) dX11_part_35 rfl rfl ?_
  refine e_aload_n (pc' := 38) dX11_part_37 rfl rfl ?_
  refine e_cv0i (pc' := 41) dX11_part_38 rfl k_11_84 h_88 rfl (Nat.le_of_ble_eq_true rfl) rfl rfl ⟨rfl, rfl⟩ ⟨Nat.zero_le _, Nat.zero_le _⟩ s_m_works ?_
  intro r σ' hr; rw [hr.1, hr.2, hwk]; clear hr
  refine e_icmpI (pc' := 44) (t := 167) dX11_part_41 (by decide) rfl (by first | exact ⟨by omega, by omega⟩ | exact hlfr) (by first | exact ⟨by omega, by omega⟩ | exact hlfr) (fun (c2_1 : wk ≤ (i : Int)) => ?_) (fun (c2_1 : ¬ (wk ≤ (i : Int))) => ?_)
  · exact e_vret dX11_part_167 rfl ⟨rfl, Nat.le_refl _⟩ ⟨rfl, by rw [show wk = i by omega]; exact hA, hF⟩
  · have hur := hu0.2 i (by omega) (by omega)
    have hmul := mulb hur.1 hur.2 hp.1 hp.2
    refine e_aload_n (pc' := 45) dX11_part_44 rfl rfl ?_
    refine e_getR (pc' := 48) dX11_part_45 rfl f_11_7 h_88 rfl ?_
    refine e_bipush (pc' := 50) (z := 56) dX11_part_48 rfl (by decide) ?_
    refine e_iald (pc' := 51) (v := md) dX11_part_50 rfl h_89 (by decide) (by omega) (by omega) hmd1 ?_
    refine e_ifI (pc' := 54) (t := 75) dX11_part_51 (by decide) rfl (by first | exact ⟨by omega, by omega⟩ | exact hlfr) (fun (c4_2 : (md : Int) ≠ 0) => ?_) (fun (c4_2 : ¬ ((md : Int) ≠ 0)) => ?_)
    · refine e_aload_n (pc' := 76) dX11_part_75 rfl rfl ?_
      refine e_getR (pc' := 79) dX11_part_76 rfl f_11_7 h_88 rfl ?_
      refine e_bipush (pc' := 81) (z := 56) dX11_part_79 rfl (by decide) ?_
      refine e_iald (pc' := 82) (v := md) dX11_part_81 rfl h_89 (by decide) (by omega) (by omega) hmd1 ?_
      refine e_iconst (pc' := 83) dX11_part_82 rfl ?_
      refine e_icmpI (pc' := 86) (t := 132) dX11_part_83 (by decide) rfl (by first | exact ⟨by omega, by omega⟩ | exact hlfr) ⟨by omega, by omega⟩ (fun (c6_3 : (md : Int) ≠ 1) => ?_) (fun (c6_3 : ¬ ((md : Int) ≠ 1)) => ?_)
      · refine e_aload_n (pc' := 133) dX11_part_132 rfl rfl ?_
        refine e_getR (pc' := 136) dX11_part_133 rfl f_11_39 h_88 rfl ?_
        refine e_iload (pc' := 138) dX11_part_136 rfl rfl ?_
        refine e_aload_n (pc' := 139) dX11_part_138 rfl rfl ?_
        refine e_getR (pc' := 142) dX11_part_139 rfl f_11_36 h_88 rfl ?_
        refine e_iload (pc' := 144) dX11_part_142 rfl rfl ?_
        refine e_iald (pc' := 145) (v := (u i)) dX11_part_144 rfl h_97 (by decide) (by omega) (by omega) (by rw [(hF 97 (by decide)).1]; exact hu i (by omega) (by omega)) ?_
        refine e_iload_n (pc' := 146) dX11_part_145 rfl rfl ?_
        refine e_icmpI (pc' := 149) (t := 159) dX11_part_146 (by decide) rfl (by first | exact ⟨by omega, by omega⟩ | exact hlfr) (by first | exact ⟨by omega, by omega⟩ | exact hlfr) (fun (c8_4 : bd ≤ ((u i) : Int)) => ?_) (fun (c8_4 : ¬ (bd ≤ ((u i) : Int))) => ?_)
        · refine e_iload_n (pc' := 160) dX11_part_159 rfl rfl ?_
          refine e_iast (pc' := 161) dX11_part_160 rfl h_98 (by decide) (by omega) (by omega) ?_
          refine e_iinc (pc' := 164) (L' := [some (rv 88), some (iv all), some (iv p), some (iv bd), some (iv left), some (iv (i + 1))]) dX11_part_161 rfl rfl (by decide) rfl ?_
          refine e_goto (pc' := 35) dX11_part_164 (by decide) ?_
          have hval : bd = adS md p u i := by
            rcases (show md = 0 ∨ md = 1 ∨ md = 2 by omega) with e | e | e
            · first | (exfalso; omega) | (rw [e, adS_0 (by omega)]; unfold shS; rw [if_pos (by omega), halle])
            · first | (exfalso; omega) | (rw [if_pos e] at hlf; rw [e, adS_1 ⟨by omega, by omega⟩ (by omega), ← hlf]; omega)
            · first | (exfalso; omega) | (rw [e, adS_2 (by omega), ← hbde e]; omega)
          refine ih _ _ _ (by omega) (by omega) (by omega) ?_ ?_ (fr_I hF (by decide))
          · by_cases hm1 : md = 1
            · rw [if_pos hm1] at hlf ⊢
              rw [show (i + 1).toNat = i.toNat + 1 by omega]
              show _ = lfS p u i.toNat - min (u ((i.toNat : Nat) : Int)) (lfS p u i.toNat)
              rw [Int.toNat_of_nonneg hi0, ← hlf]
              omega
            · rw [if_neg hm1] at hlf ⊢
              omega
          · intro w a b
            by_cases hw : w = i
            · rw [hw]
              exact (if_pos ⟨rfl, rfl⟩ : (upI τ 98 i bd).1 98 i = bd).trans hval
            · have e2 : (upI τ 98 i bd).1 98 w = τ.1 98 w := if_neg (fun q => hw q.2)
              rw [e2]
              exact hA w a (by omega)
        · refine e_aload_n (pc' := 150) dX11_part_149 rfl rfl ?_
          refine e_getR (pc' := 153) dX11_part_150 rfl f_11_36 h_88 rfl ?_
          refine e_iload (pc' := 155) dX11_part_153 rfl rfl ?_
          refine e_iald (pc' := 156) (v := (u i)) dX11_part_155 rfl h_97 (by decide) (by omega) (by omega) (by rw [(hF 97 (by decide)).1]; exact hu i (by omega) (by omega)) ?_
          refine e_goto (pc' := 160) dX11_part_156 (by decide) ?_
          refine e_iast (pc' := 161) dX11_part_160 rfl h_98 (by decide) (by omega) (by omega) ?_
          refine e_iinc (pc' := 164) (L' := [some (rv 88), some (iv all), some (iv p), some (iv bd), some (iv left), some (iv (i + 1))]) dX11_part_161 rfl rfl (by decide) rfl ?_
          refine e_goto (pc' := 35) dX11_part_164 (by decide) ?_
          have hval : (u i) = adS md p u i := by
            rcases (show md = 0 ∨ md = 1 ∨ md = 2 by omega) with e | e | e
            · first | (exfalso; omega) | (rw [e, adS_0 (by omega)]; unfold shS; rw [if_pos (by omega), halle])
            · first | (exfalso; omega) | (rw [if_pos e] at hlf; rw [e, adS_1 ⟨by omega, by omega⟩ (by omega), ← hlf]; omega)
            · first | (exfalso; omega) | (rw [e, adS_2 (by omega), ← hbde e]; omega)
          refine ih _ _ _ (by omega) (by omega) (by omega) ?_ ?_ (fr_I hF (by decide))
          · by_cases hm1 : md = 1
            · rw [if_pos hm1] at hlf ⊢
              rw [show (i + 1).toNat = i.toNat + 1 by omega]
              show _ = lfS p u i.toNat - min (u ((i.toNat : Nat) : Int)) (lfS p u i.toNat)
              rw [Int.toNat_of_nonneg hi0, ← hlf]
              omega
            · rw [if_neg hm1] at hlf ⊢
              omega
          · intro w a b
            by_cases hw : w = i
            · rw [hw]
              exact (if_pos ⟨rfl, rfl⟩ : (upI τ 98 i (u i)).1 98 i = (u i)).trans hval
            · have e2 : (upI τ 98 i (u i)).1 98 w = τ.1 98 w := if_neg (fun q => hw q.2)
              rw [e2]
              exact hA w a (by omega)
      · refine e_aload_n (pc' := 87) dX11_part_86 rfl rfl ?_
        refine e_getR (pc' := 90) dX11_part_87 rfl f_11_39 h_88 rfl ?_
        refine e_iload (pc' := 92) dX11_part_90 rfl rfl ?_
        refine e_aload_n (pc' := 93) dX11_part_92 rfl rfl ?_
        refine e_getR (pc' := 96) dX11_part_93 rfl f_11_36 h_88 rfl ?_
        refine e_iload (pc' := 98) dX11_part_96 rfl rfl ?_
        refine e_iald (pc' := 99) (v := (u i)) dX11_part_98 rfl h_97 (by decide) (by omega) (by omega) (by rw [(hF 97 (by decide)).1]; exact hu i (by omega) (by omega)) ?_
        refine e_iload (pc' := 101) dX11_part_99 rfl rfl ?_
        refine e_icmpI (pc' := 104) (t := 114) dX11_part_101 (by decide) rfl (by first | exact ⟨by omega, by omega⟩ | exact hlfr) (by first | exact ⟨by omega, by omega⟩ | exact hlfr) (fun (c8_4 : left ≤ ((u i) : Int)) => ?_) (fun (c8_4 : ¬ (left ≤ ((u i) : Int))) => ?_)
        · refine e_iload (pc' := 116) dX11_part_114 rfl rfl ?_
          refine e_iast (pc' := 117) dX11_part_116 rfl h_98 (by decide) (by omega) (by omega) ?_
          refine e_iload (pc' := 119) dX11_part_117 rfl rfl ?_
          refine e_aload_n (pc' := 120) dX11_part_119 rfl rfl ?_
          refine e_getR (pc' := 123) dX11_part_120 rfl f_11_39 h_88 rfl ?_
          refine e_iload (pc' := 125) dX11_part_123 rfl rfl ?_
          refine e_iald (pc' := 126) (v := left) dX11_part_125 rfl h_98 (by decide) (by omega) (by omega) (if_pos ⟨rfl, rfl⟩) ?_
          refine e_isub (pc' := 127) dX11_part_126 rfl ?_
          refine e_istore (pc' := 129) (L' := [some (rv 88), some (iv all), some (iv p), some (iv bd), some (iv (left - left)), some (iv i)]) dX11_part_127 rfl (by decide) rfl ?_
          refine e_goto (pc' := 161) dX11_part_129 (by decide) ?_
          refine e_iinc (pc' := 164) (L' := [some (rv 88), some (iv all), some (iv p), some (iv bd), some (iv (left - left)), some (iv (i + 1))]) dX11_part_161 rfl rfl (by decide) rfl ?_
          refine e_goto (pc' := 35) dX11_part_164 (by decide) ?_
          have hval : left = adS md p u i := by
            rcases (show md = 0 ∨ md = 1 ∨ md = 2 by omega) with e | e | e
            · first | (exfalso; omega) | (rw [e, adS_0 (by omega)]; unfold shS; rw [if_pos (by omega), halle])
            · first | (exfalso; omega) | (rw [if_pos e] at hlf; rw [e, adS_1 ⟨by omega, by omega⟩ (by omega), ← hlf]; omega)
            · first | (exfalso; omega) | (rw [e, adS_2 (by omega), ← hbde e]; omega)
          refine ih _ _ _ (by omega) (by omega) (by omega) ?_ ?_ (fr_I hF (by decide))
          · by_cases hm1 : md = 1
            · rw [if_pos hm1] at hlf ⊢
              rw [show (i + 1).toNat = i.toNat + 1 by omega]
              show _ = lfS p u i.toNat - min (u ((i.toNat : Nat) : Int)) (lfS p u i.toNat)
              rw [Int.toNat_of_nonneg hi0, ← hlf]
              omega
            · rw [if_neg hm1] at hlf ⊢
              omega
          · intro w a b
            by_cases hw : w = i
            · rw [hw]
              exact (if_pos ⟨rfl, rfl⟩ : (upI τ 98 i left).1 98 i = left).trans hval
            · have e2 : (upI τ 98 i left).1 98 w = τ.1 98 w := if_neg (fun q => hw q.2)
              rw [e2]
              exact hA w a (by omega)
        · refine e_aload_n (pc' := 105) dX11_part_104 rfl rfl ?_
          refine e_getR (pc' := 108) dX11_part_105 rfl f_11_36 h_88 rfl ?_
          refine e_iload (pc' := 110) dX11_part_108 rfl rfl ?_
          refine e_iald (pc' := 111) (v := (u i)) dX11_part_110 rfl h_97 (by decide) (by omega) (by omega) (by rw [(hF 97 (by decide)).1]; exact hu i (by omega) (by omega)) ?_
          refine e_goto (pc' := 116) dX11_part_111 (by decide) ?_
          refine e_iast (pc' := 117) dX11_part_116 rfl h_98 (by decide) (by omega) (by omega) ?_
          refine e_iload (pc' := 119) dX11_part_117 rfl rfl ?_
          refine e_aload_n (pc' := 120) dX11_part_119 rfl rfl ?_
          refine e_getR (pc' := 123) dX11_part_120 rfl f_11_39 h_88 rfl ?_
          refine e_iload (pc' := 125) dX11_part_123 rfl rfl ?_
          refine e_iald (pc' := 126) (v := (u i)) dX11_part_125 rfl h_98 (by decide) (by omega) (by omega) (if_pos ⟨rfl, rfl⟩) ?_
          refine e_isub (pc' := 127) dX11_part_126 rfl ?_
          refine e_istore (pc' := 129) (L' := [some (rv 88), some (iv all), some (iv p), some (iv bd), some (iv (left - (u i))), some (iv i)]) dX11_part_127 rfl (by decide) rfl ?_
          refine e_goto (pc' := 161) dX11_part_129 (by decide) ?_
          refine e_iinc (pc' := 164) (L' := [some (rv 88), some (iv all), some (iv p), some (iv bd), some (iv (left - (u i))), some (iv (i + 1))]) dX11_part_161 rfl rfl (by decide) rfl ?_
          refine e_goto (pc' := 35) dX11_part_164 (by decide) ?_
          have hval : (u i) = adS md p u i := by
            rcases (show md = 0 ∨ md = 1 ∨ md = 2 by omega) with e | e | e
            · first | (exfalso; omega) | (rw [e, adS_0 (by omega)]; unfold shS; rw [if_pos (by omega), halle])
            · first | (exfalso; omega) | (rw [if_pos e] at hlf; rw [e, adS_1 ⟨by omega, by omega⟩ (by omega), ← hlf]; omega)
            · first | (exfalso; omega) | (rw [e, adS_2 (by omega), ← hbde e]; omega)
          refine ih _ _ _ (by omega) (by omega) (by omega) ?_ ?_ (fr_I hF (by decide))
          · by_cases hm1 : md = 1
            · rw [if_pos hm1] at hlf ⊢
              rw [show (i + 1).toNat = i.toNat + 1 by omega]
              show _ = lfS p u i.toNat - min (u ((i.toNat : Nat) : Int)) (lfS p u i.toNat)
              rw [Int.toNat_of_nonneg hi0, ← hlf]
              omega
            · rw [if_neg hm1] at hlf ⊢
              omega
          · intro w a b
            by_cases hw : w = i
            · rw [hw]
              exact (if_pos ⟨rfl, rfl⟩ : (upI τ 98 i (u i)).1 98 i = (u i)).trans hval
            · have e2 : (upI τ 98 i (u i)).1 98 w = τ.1 98 w := if_neg (fun q => hw q.2)
              rw [e2]
              exact hA w a (by omega)
    · refine e_aload_n (pc' := 55) dX11_part_54 rfl rfl ?_
      refine e_getR (pc' := 58) dX11_part_55 rfl f_11_39 h_88 rfl ?_
      refine e_iload (pc' := 60) dX11_part_58 rfl rfl ?_
      refine e_aload_n (pc' := 61) dX11_part_60 rfl rfl ?_
      refine e_getR (pc' := 64) dX11_part_61 rfl f_11_36 h_88 rfl ?_
      refine e_iload (pc' := 66) dX11_part_64 rfl rfl ?_
      refine e_iald (pc' := 67) (v := (u i)) dX11_part_66 rfl h_97 (by decide) (by omega) (by omega) (by rw [(hF 97 (by decide)).1]; exact hu i (by omega) (by omega)) ?_
      refine e_iload_n (pc' := 68) dX11_part_67 rfl rfl ?_
      refine e_imul (pc' := 69) dX11_part_68 rfl ?_
      refine e_iload_n (pc' := 70) dX11_part_69 rfl rfl ?_
      refine e_idiv (pc' := 71) dX11_part_70 rfl (by omega) (by omega) (by omega) (by omega) ?_
      refine e_iast (pc' := 72) dX11_part_71 rfl h_98 (by decide) (by omega) (by omega) ?_
      refine e_goto (pc' := 161) dX11_part_72 (by decide) ?_
      refine e_iinc (pc' := 164) (L' := [some (rv 88), some (iv all), some (iv p), some (iv bd), some (iv left), some (iv (i + 1))]) dX11_part_161 rfl rfl (by decide) rfl ?_
      refine e_goto (pc' := 35) dX11_part_164 (by decide) ?_
      have hval : (((u i) * p) / all) = adS md p u i := by
        rcases (show md = 0 ∨ md = 1 ∨ md = 2 by omega) with e | e | e
        · first | (exfalso; omega) | (rw [e, adS_0 (by omega)]; unfold shS; rw [if_pos (by omega), halle])
        · first | (exfalso; omega) | (rw [if_pos e] at hlf; rw [e, adS_1 ⟨by omega, by omega⟩ (by omega), ← hlf]; omega)
        · first | (exfalso; omega) | (rw [e, adS_2 (by omega), ← hbde e]; omega)
      refine ih _ _ _ (by omega) (by omega) (by omega) ?_ ?_ (fr_I hF (by decide))
      · by_cases hm1 : md = 1
        · rw [if_pos hm1] at hlf ⊢
          rw [show (i + 1).toNat = i.toNat + 1 by omega]
          show _ = lfS p u i.toNat - min (u ((i.toNat : Nat) : Int)) (lfS p u i.toNat)
          rw [Int.toNat_of_nonneg hi0, ← hlf]
          omega
        · rw [if_neg hm1] at hlf ⊢
          omega
      · intro w a b
        by_cases hw : w = i
        · rw [hw]
          exact (if_pos ⟨rfl, rfl⟩ : (upI τ 98 i (((u i) * p) / all)).1 98 i = (((u i) * p) / all)).trans hval
        · have e2 : (upI τ 98 i (((u i) * p) / all)).1 98 w = τ.1 98 w := if_neg (fun q => hw q.2)
          rw [e2]
          exact hA w a (by omega)

set_option maxHeartbeats 4000000 in
set_option maxRecDepth 100000 in
theorem l_part1 {X : AX} {d : Nat} {σ : SG} (u : Int → Int) (wk : Int) (hwkr : 0 ≤ wk ∧ wk ≤ 3) (hwk : σ.1 89 181 = wk) (hu : ∀ w, 0 ≤ w → w < wk → σ.1 97 w = u w) (hu0 : (∀ w, wk ≤ w → w < 3 → u w = 0) ∧ ∀ w, 0 ≤ w → w < 3 → 0 ≤ u w ∧ u w ≤ 99) (p md all : Int) (hp : 0 ≤ p ∧ p ≤ 200) (hmd : 0 ≤ md ∧ md ≤ 2) (hmde : σ.1 89 56 = md) (halle : all = u 0 + u 1 + u 2) (hall : p < all) : ∀ (k : Nat) (bd : Int), 0 ≤ bd → bd ≤ 99 → bd < k → (∀ x, bd < x → x ≤ 99 → spr p u x < 0) → Ev X 0 0 (d + 2) mX11_part 3 [some (rv 88), some (iv all), some (iv p), some (iv bd), none, none] [] σ (QV (fun σ' => (∀ w, 0 ≤ w → w < wk → σ'.1 98 w = adS md p u w) ∧ Fr [98] σ σ')) := by
  intro k
  induction k with
  | zero => intros; omega
  | succ k ih =>
  intro bd hb0 hb9 hbk hm
  have hwk1 := hwk
  have hu1 := hu
  refine e_aload_n (pc' := 4) dX11_part_3 rfl rfl ?_
  refine e_getR (pc' := 7) dX11_part_4 rfl f_11_7 h_88 rfl ?_
  refine e_bipush (pc' := 9) (z := 56) dX11_part_7 rfl (by decide) ?_
  refine e_iald (pc' := 10) (v := md) dX11_part_9 rfl h_89 (by decide) (by omega) (by omega) hmde ?_
  refine e_iconst (pc' := 11) dX11_part_10 rfl ?_
  refine e_icmpI (pc' := 14) (t := 29) dX11_part_11 (by decide) rfl (by first | exact ⟨by omega, by omega⟩ | (have a0 := hu0.2 0 (by decide) (by decide); have a1 := hu0.2 1 (by decide) (by decide); have a2 := hu0.2 2 (by decide) (by decide); exact ⟨by omega, by omega⟩)) ⟨by omega, by omega⟩ (fun (c2_1 : (md : Int) ≠ 2) => ?_) (fun (c2_1 : ¬ ((md : Int) ≠ 2)) => ?_)
  · refine e_iload_n (pc' := 30) dX11_part_29 rfl rfl ?_
    refine e_istore (pc' := 32) (L' := [some (rv 88), some (iv all), some (iv p), some (iv bd), some (iv p), none]) dX11_part_30 rfl (by decide) rfl ?_
    refine e_iconst (pc' := 33) dX11_part_32 rfl ?_
    refine e_istore (pc' := 35) (L' := [some (rv 88), some (iv all), some (iv p), some (iv bd), some (iv p), some (iv 0)]) dX11_part_33 rfl (by decide) rfl ?_
    exact l_part2 u wk hwkr hwk hu hu0 p md all hp hmd hmde halle hall bd ⟨by omega, by omega⟩ (fun q => (by first | (exfalso; omega) | exact bound_eq hp.1 hp.2 (hu0.2 0 (by decide) (by decide)) (hu0.2 1 (by decide) (by decide)) (hu0.2 2 (by decide) (by decide)) (by omega) (by unfold spr; omega) hm)) (wk + 1).toNat 0 p σ (by omega) (by omega) (by omega) (by split <;> rfl) (fun w a b => absurd a (by omega)) Fr.rf
  · refine e_aload_n (pc' := 15) dX11_part_14 rfl rfl ?_
    refine e_iload_n (pc' := 16) dX11_part_15 rfl rfl ?_
    refine e_cv1i (pc' := 19) dX11_part_16 rfl k_11_204 h_88 rfl (Nat.le_of_ble_eq_true rfl) rfl rfl ⟨rfl, rfl⟩ ⟨Nat.zero_le _, Nat.zero_le _⟩ (s_m_below u wk hwkr hwk1 hu1 hu0 bd ⟨by omega, by omega⟩) ?_
    intro r σ' hr; rw [hr.1, hr.2]; clear hr
    refine e_iload_n (pc' := 20) dX11_part_19 rfl rfl ?_
    refine e_icmpI (pc' := 23) (t := 29) dX11_part_20 (by decide) rfl (by first | exact ⟨by omega, by omega⟩ | (have a0 := hu0.2 0 (by decide) (by decide); have a1 := hu0.2 1 (by decide) (by decide); have a2 := hu0.2 2 (by decide) (by decide); exact ⟨by omega, by omega⟩)) (by first | exact ⟨by omega, by omega⟩ | (have a0 := hu0.2 0 (by decide) (by decide); have a1 := hu0.2 1 (by decide) (by decide); have a2 := hu0.2 2 (by decide) (by decide); exact ⟨by omega, by omega⟩)) (fun (c4_2 : ((min (u 0) bd + min (u 1) bd + min (u 2) bd) : Int) ≤ p) => ?_) (fun (c4_2 : ¬ (((min (u 0) bd + min (u 1) bd + min (u 2) bd) : Int) ≤ p)) => ?_)
    · refine e_iload_n (pc' := 30) dX11_part_29 rfl rfl ?_
      refine e_istore (pc' := 32) (L' := [some (rv 88), some (iv all), some (iv p), some (iv bd), some (iv p), none]) dX11_part_30 rfl (by decide) rfl ?_
      refine e_iconst (pc' := 33) dX11_part_32 rfl ?_
      refine e_istore (pc' := 35) (L' := [some (rv 88), some (iv all), some (iv p), some (iv bd), some (iv p), some (iv 0)]) dX11_part_33 rfl (by decide) rfl ?_
      exact l_part2 u wk hwkr hwk hu hu0 p md all hp hmd hmde halle hall bd ⟨by omega, by omega⟩ (fun q => (by first | (exfalso; omega) | exact bound_eq hp.1 hp.2 (hu0.2 0 (by decide) (by decide)) (hu0.2 1 (by decide) (by decide)) (hu0.2 2 (by decide) (by decide)) (by omega) (by unfold spr; omega) hm)) (wk + 1).toNat 0 p σ (by omega) (by omega) (by omega) (by split <;> rfl) (fun w a b => absurd a (by omega)) Fr.rf
    · refine e_iinc (pc' := 26) (L' := [some (rv 88), some (iv all), some (iv p), some (iv (bd + (-1))), none, none]) dX11_part_23 rfl rfl (by decide) rfl ?_
      refine e_goto (pc' := 3) dX11_part_26 (by decide) ?_
      have hbp : 0 < bd := by
        apply Classical.byContradiction
        intro q
        have a0 := hu0.2 0 (by decide) (by decide)
        have a1 := hu0.2 1 (by decide) (by decide)
        have a2 := hu0.2 2 (by decide) (by decide)
        omega
      refine ih (bd + (-1)) (by omega) (by omega) (by omega) (fun x a b => ?_)
      by_cases hx : x = bd
      · rw [hx]; unfold spr; omega
      · exact hm x (by omega) b

set_option maxHeartbeats 4000000 in
set_option maxRecDepth 100000 in
theorem s_m_part {X : AX} {d : Nat} {σ : SG} (u : Int → Int) (wk : Int) (hwkr : 0 ≤ wk ∧ wk ≤ 3) (hwk : σ.1 89 181 = wk) (hu : ∀ w, 0 ≤ w → w < wk → σ.1 97 w = u w) (hu0 : (∀ w, wk ≤ w → w < 3 → u w = 0) ∧ ∀ w, 0 ≤ w → w < 3 → 0 ≤ u w ∧ u w ≤ 99) (p md all : Int) (hp : 0 ≤ p ∧ p ≤ 200) (hmd : 0 ≤ md ∧ md ≤ 2) (hmde : σ.1 89 56 = md) (halle : all = u 0 + u 1 + u 2) (hall : p < all) : Ev X 0 0 (d + 2) mX11_part 0 [some (rv 88), some (iv all), some (iv p), none, none, none] [] σ (QV (fun σ' => (∀ w, 0 ≤ w → w < wk → σ'.1 98 w = adS md p u w) ∧ Fr [98] σ σ')) := by
  refine e_bipush (pc' := 2) (z := 99) dX11_part_0 rfl (by decide) ?_
  refine e_istore_n (pc' := 3) (L' := [some (rv 88), some (iv all), some (iv p), some (iv 99), none, none]) dX11_part_2 rfl (by decide) rfl ?_
  exact l_part1 u wk hwkr hwk hu hu0 p md all hp hmd hmde halle hall 100 99 (by decide) (by decide) (by decide) (fun x a b => by omega)
