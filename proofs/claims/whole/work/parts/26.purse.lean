theorem opn_rg (u : Int → Int) (b : Int) : 0 ≤ opn u b ∧ opn u b ≤ 3 := by
  unfold opn
  by_cases c0 : u 0 ≤ b <;> by_cases c1 : u 1 ≤ b <;> by_cases c2 : u 2 ≤ b <;> simp [c0, c1, c2]

set_option maxHeartbeats 4000000 in
set_option maxRecDepth 100000 in
theorem l_bound {X : AX} {d : Nat} {σ : SG} (p : Int) (hu0 : 0 ≤ σ.1 41 0 ∧ σ.1 41 0 ≤ 99) (hu1 : 0 ≤ σ.1 41 1 ∧ σ.1 41 1 ≤ 99) (hu2 : 0 ≤ σ.1 41 2 ∧ σ.1 41 2 ≤ 99) (hp : 0 ≤ p ∧ p ≤ 200) : ∀ (k : Nat) (n : Nat) (i : Int) (τ : SG) (x4 x5 x6 : Option AV), i = n → n ≤ 4 → 4 - n < k → (∀ m, n = m + 1 → τ.1 42 0 = min (σ.1 41 0) (bN p (σ.1 41) m) ∧ τ.1 42 1 = min (σ.1 41 1) (bN p (σ.1 41) m) ∧ τ.1 42 2 = min (σ.1 41 2) (bN p (σ.1 41) m)) → Fr [42] σ τ → Ev X 0 0 (d + 1) mX3_partByBound 4 [some (rv 39), some (iv p), some (iv (bN p (σ.1 41) n)), some (iv i), x4, x5, x6] [] τ (QV (fun σ' => (σ'.1 42 0 = min (σ.1 41 0) (bN p (σ.1 41) 3) ∧ σ'.1 42 1 = min (σ.1 41 1) (bN p (σ.1 41) 3) ∧ σ'.1 42 2 = min (σ.1 41 2) (bN p (σ.1 41) 3)) ∧ Fr [42] σ σ')) := by
  intro k
  induction k with
  | zero => intros; omega
  | succ k ih =>
  intro n i τ x4 x5 x6 hi hn hk hA1 hF1
  have hb := bN_ok hp.1 hp.2 hu0.1 hu1.1 hu2.1 n
  refine e_iload_n (pc' := 5) dX3_partByBound_4 rfl rfl ?_
  refine e_iconst (pc' := 6) dX3_partByBound_5 rfl ?_
  refine e_icmpI (pc' := 9) (t := 104) dX3_partByBound_6 (by decide) rfl ⟨by omega, by omega⟩ ⟨by omega, by omega⟩ (fun (c2_1 : 3 < (i : Int)) => ?_) (fun (c2_1 : ¬ (3 < (i : Int))) => ?_)
  · exact e_vret dX3_partByBound_104 rfl ⟨rfl, Nat.le_refl _⟩ ⟨rfl, hA1 3 (by omega), hF1⟩
  · refine e_iload_n (pc' := 10) dX3_partByBound_9 rfl rfl ?_
    refine e_istore (pc' := 12) (L' := [some (rv 39), some (iv p), some (iv (bN p (σ.1 41) n)), some (iv i), some (iv p), x5, x6]) dX3_partByBound_10 rfl (by decide) rfl ?_
    refine e_iconst (pc' := 13) dX3_partByBound_12 rfl ?_
    refine e_istore (pc' := 15) (L' := [some (rv 39), some (iv p), some (iv (bN p (σ.1 41) n)), some (iv i), some (iv p), some (iv 0), x6]) dX3_partByBound_13 rfl (by decide) rfl ?_
    refine e_iconst (pc' := 16) dX3_partByBound_15 rfl ?_
    refine e_istore (pc' := 18) (L' := [some (rv 39), some (iv p), some (iv (bN p (σ.1 41) n)), some (iv i), some (iv p), some (iv 0), some (iv 0)]) dX3_partByBound_16 rfl (by decide) rfl ?_
    refine e_iload (pc' := 20) dX3_partByBound_18 rfl rfl ?_
    refine e_iconst (pc' := 21) dX3_partByBound_20 rfl ?_
    refine e_icmpI (pc' := 24) (t := 81) dX3_partByBound_21 (by decide) rfl ⟨by omega, by omega⟩ ⟨by omega, by omega⟩ (fun c4_2 => absurd (show 3 ≤ (0 : Int) from c4_2) (by decide)) (fun _ => ?_)
    refine e_aload_n (pc' := 25) dX3_partByBound_24 rfl rfl ?_
    refine e_getR (pc' := 28) dX3_partByBound_25 rfl f_3_18 h_39 rfl ?_
    refine e_iload (pc' := 30) dX3_partByBound_28 rfl rfl ?_
    refine e_aload_n (pc' := 31) dX3_partByBound_30 rfl rfl ?_
    refine e_getR (pc' := 34) dX3_partByBound_31 rfl f_3_15 h_39 rfl ?_
    refine e_iload (pc' := 36) dX3_partByBound_34 rfl rfl ?_
    refine e_iald (pc' := 37) (v := (σ.1 41 0)) dX3_partByBound_36 rfl h_41 (by decide) (by omega) (by omega) ((congrFun (hF1 41 (by decide)).1 0).trans rfl) ?_
    refine e_iload_n (pc' := 38) dX3_partByBound_37 rfl rfl ?_
    refine e_min (pc' := 41) dX3_partByBound_38 rfl p_3_77 ⟨by omega, by omega⟩ ⟨by omega, by omega⟩ (Nat.le_of_ble_eq_true rfl) ⟨Nat.zero_le _, Nat.zero_le _⟩ ?_
    refine e_iast (pc' := 42) dX3_partByBound_41 rfl h_42 (by decide) (by omega) (by omega) ?_
    refine e_iload (pc' := 44) dX3_partByBound_42 rfl rfl ?_
    refine e_aload_n (pc' := 45) dX3_partByBound_44 rfl rfl ?_
    refine e_getR (pc' := 48) dX3_partByBound_45 rfl f_3_18 h_39 rfl ?_
    refine e_iload (pc' := 50) dX3_partByBound_48 rfl rfl ?_
    refine e_iald (pc' := 51) (v := (min (σ.1 41 0) (bN p (σ.1 41) n))) dX3_partByBound_50 rfl h_42 (by decide) (by omega) (by omega) rfl ?_
    refine e_isub (pc' := 52) dX3_partByBound_51 rfl ?_
    refine e_istore (pc' := 54) (L' := [some (rv 39), some (iv p), some (iv (bN p (σ.1 41) n)), some (iv i), some (iv (p - (min (σ.1 41 0) (bN p (σ.1 41) n)))), some (iv 0), some (iv 0)]) dX3_partByBound_52 rfl (by decide) rfl ?_
    refine e_iload (pc' := 56) dX3_partByBound_54 rfl rfl ?_
    refine e_aload_n (pc' := 57) dX3_partByBound_56 rfl rfl ?_
    refine e_getR (pc' := 60) dX3_partByBound_57 rfl f_3_15 h_39 rfl ?_
    refine e_iload (pc' := 62) dX3_partByBound_60 rfl rfl ?_
    refine e_iald (pc' := 63) (v := (σ.1 41 0)) dX3_partByBound_62 rfl h_41 (by decide) (by omega) (by omega) ((congrFun (hF1 41 (by decide)).1 0).trans rfl) ?_
    refine e_iload_n (pc' := 64) dX3_partByBound_63 rfl rfl ?_
    refine e_ternC (J := 72) (pc' := 67) (t := 71) dX3_partByBound_64 (by decide) rfl ⟨by omega, by omega⟩ ⟨by omega, by omega⟩ dX3_partByBound_67 dX3_partByBound_68 (by decide) dX3_partByBound_71 rfl ?_
    refine e_iadd (pc' := 73) dX3_partByBound_72 rfl ?_
    refine e_istore (pc' := 75) (L' := [some (rv 39), some (iv p), some (iv (bN p (σ.1 41) n)), some (iv i), some (iv (p - (min (σ.1 41 0) (bN p (σ.1 41) n)))), some (iv (0 + (if ((σ.1 41 0) : Int) ≤ (bN p (σ.1 41) n) then 0 else 1))), some (iv 0)]) dX3_partByBound_73 rfl (by decide) rfl ?_
    refine e_iinc (pc' := 78) (L' := [some (rv 39), some (iv p), some (iv (bN p (σ.1 41) n)), some (iv i), some (iv (p - (min (σ.1 41 0) (bN p (σ.1 41) n)))), some (iv (0 + (if ((σ.1 41 0) : Int) ≤ (bN p (σ.1 41) n) then 0 else 1))), some (iv 1)]) dX3_partByBound_75 rfl rfl (by decide) rfl ?_
    refine e_goto (pc' := 18) dX3_partByBound_78 (by decide) ?_
    refine e_iload (pc' := 20) dX3_partByBound_18 rfl rfl ?_
    refine e_iconst (pc' := 21) dX3_partByBound_20 rfl ?_
    refine e_icmpI (pc' := 24) (t := 81) dX3_partByBound_21 (by decide) rfl ⟨by omega, by omega⟩ ⟨by omega, by omega⟩ (fun c4_4 => absurd (show 3 ≤ (1 : Int) from c4_4) (by decide)) (fun _ => ?_)
    refine e_aload_n (pc' := 25) dX3_partByBound_24 rfl rfl ?_
    refine e_getR (pc' := 28) dX3_partByBound_25 rfl f_3_18 h_39 rfl ?_
    refine e_iload (pc' := 30) dX3_partByBound_28 rfl rfl ?_
    refine e_aload_n (pc' := 31) dX3_partByBound_30 rfl rfl ?_
    refine e_getR (pc' := 34) dX3_partByBound_31 rfl f_3_15 h_39 rfl ?_
    refine e_iload (pc' := 36) dX3_partByBound_34 rfl rfl ?_
    refine e_iald (pc' := 37) (v := (σ.1 41 1)) dX3_partByBound_36 rfl h_41 (by decide) (by omega) (by omega) ((congrFun (hF1 41 (by decide)).1 1).trans rfl) ?_
    refine e_iload_n (pc' := 38) dX3_partByBound_37 rfl rfl ?_
    refine e_min (pc' := 41) dX3_partByBound_38 rfl p_3_77 ⟨by omega, by omega⟩ ⟨by omega, by omega⟩ (Nat.le_of_ble_eq_true rfl) ⟨Nat.zero_le _, Nat.zero_le _⟩ ?_
    refine e_iast (pc' := 42) dX3_partByBound_41 rfl h_42 (by decide) (by omega) (by omega) ?_
    refine e_iload (pc' := 44) dX3_partByBound_42 rfl rfl ?_
    refine e_aload_n (pc' := 45) dX3_partByBound_44 rfl rfl ?_
    refine e_getR (pc' := 48) dX3_partByBound_45 rfl f_3_18 h_39 rfl ?_
    refine e_iload (pc' := 50) dX3_partByBound_48 rfl rfl ?_
    refine e_iald (pc' := 51) (v := (min (σ.1 41 1) (bN p (σ.1 41) n))) dX3_partByBound_50 rfl h_42 (by decide) (by omega) (by omega) rfl ?_
    refine e_isub (pc' := 52) dX3_partByBound_51 rfl ?_
    refine e_istore (pc' := 54) (L' := [some (rv 39), some (iv p), some (iv (bN p (σ.1 41) n)), some (iv i), some (iv ((p - (min (σ.1 41 0) (bN p (σ.1 41) n))) - (min (σ.1 41 1) (bN p (σ.1 41) n)))), some (iv (0 + (if ((σ.1 41 0) : Int) ≤ (bN p (σ.1 41) n) then 0 else 1))), some (iv 1)]) dX3_partByBound_52 rfl (by decide) rfl ?_
    refine e_iload (pc' := 56) dX3_partByBound_54 rfl rfl ?_
    refine e_aload_n (pc' := 57) dX3_partByBound_56 rfl rfl ?_
    refine e_getR (pc' := 60) dX3_partByBound_57 rfl f_3_15 h_39 rfl ?_
    refine e_iload (pc' := 62) dX3_partByBound_60 rfl rfl ?_
    refine e_iald (pc' := 63) (v := (σ.1 41 1)) dX3_partByBound_62 rfl h_41 (by decide) (by omega) (by omega) ((congrFun (hF1 41 (by decide)).1 1).trans rfl) ?_
    refine e_iload_n (pc' := 64) dX3_partByBound_63 rfl rfl ?_
    refine e_ternC (J := 72) (pc' := 67) (t := 71) dX3_partByBound_64 (by decide) rfl ⟨by omega, by omega⟩ ⟨by omega, by omega⟩ dX3_partByBound_67 dX3_partByBound_68 (by decide) dX3_partByBound_71 rfl ?_
    refine e_iadd (pc' := 73) dX3_partByBound_72 rfl ?_
    refine e_istore (pc' := 75) (L' := [some (rv 39), some (iv p), some (iv (bN p (σ.1 41) n)), some (iv i), some (iv ((p - (min (σ.1 41 0) (bN p (σ.1 41) n))) - (min (σ.1 41 1) (bN p (σ.1 41) n)))), some (iv ((0 + (if ((σ.1 41 0) : Int) ≤ (bN p (σ.1 41) n) then 0 else 1)) + (if ((σ.1 41 1) : Int) ≤ (bN p (σ.1 41) n) then 0 else 1))), some (iv 1)]) dX3_partByBound_73 rfl (by decide) rfl ?_
    refine e_iinc (pc' := 78) (L' := [some (rv 39), some (iv p), some (iv (bN p (σ.1 41) n)), some (iv i), some (iv ((p - (min (σ.1 41 0) (bN p (σ.1 41) n))) - (min (σ.1 41 1) (bN p (σ.1 41) n)))), some (iv ((0 + (if ((σ.1 41 0) : Int) ≤ (bN p (σ.1 41) n) then 0 else 1)) + (if ((σ.1 41 1) : Int) ≤ (bN p (σ.1 41) n) then 0 else 1))), some (iv 2)]) dX3_partByBound_75 rfl rfl (by decide) rfl ?_
    refine e_goto (pc' := 18) dX3_partByBound_78 (by decide) ?_
    refine e_iload (pc' := 20) dX3_partByBound_18 rfl rfl ?_
    refine e_iconst (pc' := 21) dX3_partByBound_20 rfl ?_
    refine e_icmpI (pc' := 24) (t := 81) dX3_partByBound_21 (by decide) rfl ⟨by omega, by omega⟩ ⟨by omega, by omega⟩ (fun c4_6 => absurd (show 3 ≤ (2 : Int) from c4_6) (by decide)) (fun _ => ?_)
    refine e_aload_n (pc' := 25) dX3_partByBound_24 rfl rfl ?_
    refine e_getR (pc' := 28) dX3_partByBound_25 rfl f_3_18 h_39 rfl ?_
    refine e_iload (pc' := 30) dX3_partByBound_28 rfl rfl ?_
    refine e_aload_n (pc' := 31) dX3_partByBound_30 rfl rfl ?_
    refine e_getR (pc' := 34) dX3_partByBound_31 rfl f_3_15 h_39 rfl ?_
    refine e_iload (pc' := 36) dX3_partByBound_34 rfl rfl ?_
    refine e_iald (pc' := 37) (v := (σ.1 41 2)) dX3_partByBound_36 rfl h_41 (by decide) (by omega) (by omega) ((congrFun (hF1 41 (by decide)).1 2).trans rfl) ?_
    refine e_iload_n (pc' := 38) dX3_partByBound_37 rfl rfl ?_
    refine e_min (pc' := 41) dX3_partByBound_38 rfl p_3_77 ⟨by omega, by omega⟩ ⟨by omega, by omega⟩ (Nat.le_of_ble_eq_true rfl) ⟨Nat.zero_le _, Nat.zero_le _⟩ ?_
    refine e_iast (pc' := 42) dX3_partByBound_41 rfl h_42 (by decide) (by omega) (by omega) ?_
    refine e_iload (pc' := 44) dX3_partByBound_42 rfl rfl ?_
    refine e_aload_n (pc' := 45) dX3_partByBound_44 rfl rfl ?_
    refine e_getR (pc' := 48) dX3_partByBound_45 rfl f_3_18 h_39 rfl ?_
    refine e_iload (pc' := 50) dX3_partByBound_48 rfl rfl ?_
    refine e_iald (pc' := 51) (v := (min (σ.1 41 2) (bN p (σ.1 41) n))) dX3_partByBound_50 rfl h_42 (by decide) (by omega) (by omega) rfl ?_
    refine e_isub (pc' := 52) dX3_partByBound_51 rfl ?_
    refine e_istore (pc' := 54) (L' := [some (rv 39), some (iv p), some (iv (bN p (σ.1 41) n)), some (iv i), some (iv (((p - (min (σ.1 41 0) (bN p (σ.1 41) n))) - (min (σ.1 41 1) (bN p (σ.1 41) n))) - (min (σ.1 41 2) (bN p (σ.1 41) n)))), some (iv ((0 + (if ((σ.1 41 0) : Int) ≤ (bN p (σ.1 41) n) then 0 else 1)) + (if ((σ.1 41 1) : Int) ≤ (bN p (σ.1 41) n) then 0 else 1))), some (iv 2)]) dX3_partByBound_52 rfl (by decide) rfl ?_
    refine e_iload (pc' := 56) dX3_partByBound_54 rfl rfl ?_
    refine e_aload_n (pc' := 57) dX3_partByBound_56 rfl rfl ?_
    refine e_getR (pc' := 60) dX3_partByBound_57 rfl f_3_15 h_39 rfl ?_
    refine e_iload (pc' := 62) dX3_partByBound_60 rfl rfl ?_
    refine e_iald (pc' := 63) (v := (σ.1 41 2)) dX3_partByBound_62 rfl h_41 (by decide) (by omega) (by omega) ((congrFun (hF1 41 (by decide)).1 2).trans rfl) ?_
    refine e_iload_n (pc' := 64) dX3_partByBound_63 rfl rfl ?_
    refine e_ternC (J := 72) (pc' := 67) (t := 71) dX3_partByBound_64 (by decide) rfl ⟨by omega, by omega⟩ ⟨by omega, by omega⟩ dX3_partByBound_67 dX3_partByBound_68 (by decide) dX3_partByBound_71 rfl ?_
    refine e_iadd (pc' := 73) dX3_partByBound_72 rfl ?_
    refine e_istore (pc' := 75) (L' := [some (rv 39), some (iv p), some (iv (bN p (σ.1 41) n)), some (iv i), some (iv (((p - (min (σ.1 41 0) (bN p (σ.1 41) n))) - (min (σ.1 41 1) (bN p (σ.1 41) n))) - (min (σ.1 41 2) (bN p (σ.1 41) n)))), some (iv (((0 + (if ((σ.1 41 0) : Int) ≤ (bN p (σ.1 41) n) then 0 else 1)) + (if ((σ.1 41 1) : Int) ≤ (bN p (σ.1 41) n) then 0 else 1)) + (if ((σ.1 41 2) : Int) ≤ (bN p (σ.1 41) n) then 0 else 1))), some (iv 2)]) dX3_partByBound_73 rfl (by decide) rfl ?_
    refine e_iinc (pc' := 78) (L' := [some (rv 39), some (iv p), some (iv (bN p (σ.1 41) n)), some (iv i), some (iv (((p - (min (σ.1 41 0) (bN p (σ.1 41) n))) - (min (σ.1 41 1) (bN p (σ.1 41) n))) - (min (σ.1 41 2) (bN p (σ.1 41) n)))), some (iv (((0 + (if ((σ.1 41 0) : Int) ≤ (bN p (σ.1 41) n) then 0 else 1)) + (if ((σ.1 41 1) : Int) ≤ (bN p (σ.1 41) n) then 0 else 1)) + (if ((σ.1 41 2) : Int) ≤ (bN p (σ.1 41) n) then 0 else 1))), some (iv 3)]) dX3_partByBound_75 rfl rfl (by decide) rfl ?_
    refine e_goto (pc' := 18) dX3_partByBound_78 (by decide) ?_
    refine e_iload (pc' := 20) dX3_partByBound_18 rfl rfl ?_
    refine e_iconst (pc' := 21) dX3_partByBound_20 rfl ?_
    refine e_icmpI (pc' := 24) (t := 81) dX3_partByBound_21 (by decide) rfl ⟨by omega, by omega⟩ ⟨by omega, by omega⟩ (fun _ => ?_) (fun c4_8 => absurd (show 3 ≤ (3 : Int) by decide) c4_8)
    have ho : 0 ≤ ((((0 + (if ((σ.1 41 0) : Int) ≤ (bN p (σ.1 41) n) then 0 else 1)) + (if ((σ.1 41 1) : Int) ≤ (bN p (σ.1 41) n) then 0 else 1)) + (if ((σ.1 41 2) : Int) ≤ (bN p (σ.1 41) n) then 0 else 1)) : Int) ∧ ((((0 + (if ((σ.1 41 0) : Int) ≤ (bN p (σ.1 41) n) then 0 else 1)) + (if ((σ.1 41 1) : Int) ≤ (bN p (σ.1 41) n) then 0 else 1)) + (if ((σ.1 41 2) : Int) ≤ (bN p (σ.1 41) n) then 0 else 1)) : Int) ≤ 3 := opn_rg (σ.1 41) (bN p (σ.1 41) n)
    have hs : 0 ≤ ((((p - (min (σ.1 41 0) (bN p (σ.1 41) n))) - (min (σ.1 41 1) (bN p (σ.1 41) n))) - (min (σ.1 41 2) (bN p (σ.1 41) n))) : Int) := hb.1
    have hs2 : ((((p - (min (σ.1 41 0) (bN p (σ.1 41) n))) - (min (σ.1 41 1) (bN p (σ.1 41) n))) - (min (σ.1 41 2) (bN p (σ.1 41) n))) : Int) ≤ 200 := by omega
    refine e_iload_n (pc' := 82) dX3_partByBound_81 rfl rfl ?_
    refine e_iload (pc' := 84) dX3_partByBound_82 rfl rfl ?_
    refine e_ifI (pc' := 87) (t := 95) dX3_partByBound_84 (by decide) rfl ⟨by omega, by omega⟩ (fun (c4_9 : ((((0 + (if ((σ.1 41 0) : Int) ≤ (bN p (σ.1 41) n) then 0 else 1)) + (if ((σ.1 41 1) : Int) ≤ (bN p (σ.1 41) n) then 0 else 1)) + (if ((σ.1 41 2) : Int) ≤ (bN p (σ.1 41) n) then 0 else 1)) : Int) ≤ 0) => ?_) (fun (c4_9 : ¬ (((((0 + (if ((σ.1 41 0) : Int) ≤ (bN p (σ.1 41) n) then 0 else 1)) + (if ((σ.1 41 1) : Int) ≤ (bN p (σ.1 41) n) then 0 else 1)) + (if ((σ.1 41 2) : Int) ≤ (bN p (σ.1 41) n) then 0 else 1)) : Int) ≤ 0)) => ?_)
    · refine e_iconst (pc' := 96) dX3_partByBound_95 rfl ?_
      refine e_iadd (pc' := 97) dX3_partByBound_96 rfl ?_
      refine e_istore_n (pc' := 98) (L' := [some (rv 39), some (iv p), some (iv ((bN p (σ.1 41) n) + 0)), some (iv i), some (iv (((p - (min (σ.1 41 0) (bN p (σ.1 41) n))) - (min (σ.1 41 1) (bN p (σ.1 41) n))) - (min (σ.1 41 2) (bN p (σ.1 41) n)))), some (iv (((0 + (if ((σ.1 41 0) : Int) ≤ (bN p (σ.1 41) n) then 0 else 1)) + (if ((σ.1 41 1) : Int) ≤ (bN p (σ.1 41) n) then 0 else 1)) + (if ((σ.1 41 2) : Int) ≤ (bN p (σ.1 41) n) then 0 else 1))), some (iv 3)]) dX3_partByBound_97 rfl (by decide) rfl ?_
      refine e_iinc (pc' := 101) (L' := [some (rv 39), some (iv p), some (iv ((bN p (σ.1 41) n) + 0)), some (iv (i + 1)), some (iv (((p - (min (σ.1 41 0) (bN p (σ.1 41) n))) - (min (σ.1 41 1) (bN p (σ.1 41) n))) - (min (σ.1 41 2) (bN p (σ.1 41) n)))), some (iv (((0 + (if ((σ.1 41 0) : Int) ≤ (bN p (σ.1 41) n) then 0 else 1)) + (if ((σ.1 41 1) : Int) ≤ (bN p (σ.1 41) n) then 0 else 1)) + (if ((σ.1 41 2) : Int) ≤ (bN p (σ.1 41) n) then 0 else 1))), some (iv 3)]) dX3_partByBound_98 rfl rfl (by decide) rfl ?_
      refine e_goto (pc' := 4) dX3_partByBound_101 (by decide) ?_
      have e : bN p (σ.1 41) (n + 1) = ((bN p (σ.1 41) n) + 0) := congrArg (fun z => (bN p (σ.1 41) n) + z) (if_neg (show ¬ 0 < opn (σ.1 41) (bN p (σ.1 41) n) from fun q => absurd (show 0 < ((((0 + (if ((σ.1 41 0) : Int) ≤ (bN p (σ.1 41) n) then 0 else 1)) + (if ((σ.1 41 1) : Int) ≤ (bN p (σ.1 41) n) then 0 else 1)) + (if ((σ.1 41 2) : Int) ≤ (bN p (σ.1 41) n) then 0 else 1)) : Int) from q) (by omega)))
      rw [← e]
      exact ih (n + 1) _ _ _ _ _ (by omega) (by omega) (by omega) (fun m hm => by have hmn : m = n := (by omega); subst hmn; exact ⟨rfl, rfl, rfl⟩) (by repeat (first | exact hF1 | (refine fr_I ?_ (by decide))))
    · refine e_iload (pc' := 89) dX3_partByBound_87 rfl rfl ?_
      refine e_iload (pc' := 91) dX3_partByBound_89 rfl rfl ?_
      refine e_idiv (pc' := 92) dX3_partByBound_91 rfl (by omega) (by omega) (by omega) (by omega) ?_
      refine e_goto (pc' := 96) dX3_partByBound_92 (by decide) ?_
      refine e_iadd (pc' := 97) dX3_partByBound_96 rfl ?_
      refine e_istore_n (pc' := 98) (L' := [some (rv 39), some (iv p), some (iv ((bN p (σ.1 41) n) + ((((p - (min (σ.1 41 0) (bN p (σ.1 41) n))) - (min (σ.1 41 1) (bN p (σ.1 41) n))) - (min (σ.1 41 2) (bN p (σ.1 41) n))) / (((0 + (if ((σ.1 41 0) : Int) ≤ (bN p (σ.1 41) n) then 0 else 1)) + (if ((σ.1 41 1) : Int) ≤ (bN p (σ.1 41) n) then 0 else 1)) + (if ((σ.1 41 2) : Int) ≤ (bN p (σ.1 41) n) then 0 else 1))))), some (iv i), some (iv (((p - (min (σ.1 41 0) (bN p (σ.1 41) n))) - (min (σ.1 41 1) (bN p (σ.1 41) n))) - (min (σ.1 41 2) (bN p (σ.1 41) n)))), some (iv (((0 + (if ((σ.1 41 0) : Int) ≤ (bN p (σ.1 41) n) then 0 else 1)) + (if ((σ.1 41 1) : Int) ≤ (bN p (σ.1 41) n) then 0 else 1)) + (if ((σ.1 41 2) : Int) ≤ (bN p (σ.1 41) n) then 0 else 1))), some (iv 3)]) dX3_partByBound_97 rfl (by decide) rfl ?_
      refine e_iinc (pc' := 101) (L' := [some (rv 39), some (iv p), some (iv ((bN p (σ.1 41) n) + ((((p - (min (σ.1 41 0) (bN p (σ.1 41) n))) - (min (σ.1 41 1) (bN p (σ.1 41) n))) - (min (σ.1 41 2) (bN p (σ.1 41) n))) / (((0 + (if ((σ.1 41 0) : Int) ≤ (bN p (σ.1 41) n) then 0 else 1)) + (if ((σ.1 41 1) : Int) ≤ (bN p (σ.1 41) n) then 0 else 1)) + (if ((σ.1 41 2) : Int) ≤ (bN p (σ.1 41) n) then 0 else 1))))), some (iv (i + 1)), some (iv (((p - (min (σ.1 41 0) (bN p (σ.1 41) n))) - (min (σ.1 41 1) (bN p (σ.1 41) n))) - (min (σ.1 41 2) (bN p (σ.1 41) n)))), some (iv (((0 + (if ((σ.1 41 0) : Int) ≤ (bN p (σ.1 41) n) then 0 else 1)) + (if ((σ.1 41 1) : Int) ≤ (bN p (σ.1 41) n) then 0 else 1)) + (if ((σ.1 41 2) : Int) ≤ (bN p (σ.1 41) n) then 0 else 1))), some (iv 3)]) dX3_partByBound_98 rfl rfl (by decide) rfl ?_
      refine e_goto (pc' := 4) dX3_partByBound_101 (by decide) ?_
      have e : bN p (σ.1 41) (n + 1) = ((bN p (σ.1 41) n) + ((((p - (min (σ.1 41 0) (bN p (σ.1 41) n))) - (min (σ.1 41 1) (bN p (σ.1 41) n))) - (min (σ.1 41 2) (bN p (σ.1 41) n))) / (((0 + (if ((σ.1 41 0) : Int) ≤ (bN p (σ.1 41) n) then 0 else 1)) + (if ((σ.1 41 1) : Int) ≤ (bN p (σ.1 41) n) then 0 else 1)) + (if ((σ.1 41 2) : Int) ≤ (bN p (σ.1 41) n) then 0 else 1)))) := congrArg (fun z => (bN p (σ.1 41) n) + z) (if_pos (show 0 < opn (σ.1 41) (bN p (σ.1 41) n) from (show 0 < ((((0 + (if ((σ.1 41 0) : Int) ≤ (bN p (σ.1 41) n) then 0 else 1)) + (if ((σ.1 41 1) : Int) ≤ (bN p (σ.1 41) n) then 0 else 1)) + (if ((σ.1 41 2) : Int) ≤ (bN p (σ.1 41) n) then 0 else 1)) : Int) by omega)))
      rw [← e]
      exact ih (n + 1) _ _ _ _ _ (by omega) (by omega) (by omega) (fun m hm => by have hmn : m = n := (by omega); subst hmn; exact ⟨rfl, rfl, rfl⟩) (by repeat (first | exact hF1 | (refine fr_I ?_ (by decide))))

set_option maxHeartbeats 4000000 in
set_option maxRecDepth 100000 in
theorem s_bound {X : AX} {d : Nat} {σ : SG} (p : Int) (hu0 : 0 ≤ σ.1 41 0 ∧ σ.1 41 0 ≤ 99) (hu1 : 0 ≤ σ.1 41 1 ∧ σ.1 41 1 ≤ 99) (hu2 : 0 ≤ σ.1 41 2 ∧ σ.1 41 2 ≤ 99) (hp : 0 ≤ p ∧ p ≤ 200) : Ev X 0 0 (d + 1) mX3_partByBound 0 [some (rv 39), some (iv p), none, none, none, none, none] [] σ (QV (fun σ' => (σ'.1 42 0 = min (σ.1 41 0) (bN p (σ.1 41) 3) ∧ σ'.1 42 1 = min (σ.1 41 1) (bN p (σ.1 41) 3) ∧ σ'.1 42 2 = min (σ.1 41 2) (bN p (σ.1 41) 3)) ∧ Fr [42] σ σ')) := by
  refine e_iconst (pc' := 1) dX3_partByBound_0 rfl ?_
  refine e_istore_n (pc' := 2) (L' := [some (rv 39), some (iv p), some (iv 0), none, none, none, none]) dX3_partByBound_1 rfl (by decide) rfl ?_
  refine e_iconst (pc' := 3) dX3_partByBound_2 rfl ?_
  refine e_istore_n (pc' := 4) (L' := [some (rv 39), some (iv p), some (iv 0), some (iv 0), none, none, none]) dX3_partByBound_3 rfl (by decide) rfl ?_
  exact l_bound p hu0 hu1 hu2 hp 5 0 0 σ _ _ _ rfl (by omega) (by omega) (fun m hm => by omega) Fr.rf

set_option maxHeartbeats 4000000 in
set_option maxRecDepth 100000 in
theorem s_partPurse_1 {X : AX} {d : Nat} {σ : SG} (hu0 : 0 ≤ σ.1 41 0 ∧ σ.1 41 0 ≤ 99) (hu1 : 0 ≤ σ.1 41 1 ∧ σ.1 41 1 ≤ 99) (hu2 : 0 ≤ σ.1 41 2 ∧ σ.1 41 2 ≤ 99) (hp : 0 ≤ (σ.1 1 10) ∧ (σ.1 1 10) ≤ 200) (hm : 0 ≤ (σ.1 1 11) ∧ (σ.1 1 11) ≤ 2) : Ev X 0 0 (d + 2) mX3_partPurse 0 [some (rv 39), some (rv 1), none, none] [] σ (QV (fun σ' => (σ'.1 42 0 = adS (σ.1 1 11) (σ.1 1 10) (σ.1 41) 0 ∧ σ'.1 42 1 = adS (σ.1 1 11) (σ.1 1 10) (σ.1 41) 1 ∧ σ'.1 42 2 = adS (σ.1 1 11) (σ.1 1 10) (σ.1 41) 2) ∧ σ'.1 39 4 = (if ((((0 + (σ.1 41 0)) + (σ.1 41 1)) + (σ.1 41 2)) : Int) ≤ (σ.1 1 10) then 0 else 1) ∧ Fr [39, 42] σ σ')) := by
  have e0 : (((0 + (σ.1 41 0)) + (σ.1 41 1)) + (σ.1 41 2)) = σ.1 41 0 + σ.1 41 1 + σ.1 41 2 := by omega
  refine e_iconst (pc' := 1) dX3_partPurse_0 rfl ?_
  refine e_istore_n (pc' := 2) (L' := [some (rv 39), some (rv 1), some (iv 0), none]) dX3_partPurse_1 rfl (by decide) rfl ?_
  refine e_iconst (pc' := 3) dX3_partPurse_2 rfl ?_
  refine e_istore_n (pc' := 4) (L' := [some (rv 39), some (rv 1), some (iv 0), some (iv 0)]) dX3_partPurse_3 rfl (by decide) rfl ?_
  refine e_iload_n (pc' := 5) dX3_partPurse_4 rfl rfl ?_
  refine e_iconst (pc' := 6) dX3_partPurse_5 rfl ?_
  refine e_icmpI (pc' := 9) (t := 36) dX3_partPurse_6 (by decide) rfl ⟨by omega, by omega⟩ ⟨by omega, by omega⟩ (fun c2_1 => absurd (show 3 ≤ (0 : Int) from c2_1) (by decide)) (fun _ => ?_)
  refine e_iload_n (pc' := 10) dX3_partPurse_9 rfl rfl ?_
  refine e_aload_n (pc' := 11) dX3_partPurse_10 rfl rfl ?_
  refine e_getR (pc' := 14) dX3_partPurse_11 rfl f_3_15 h_39 rfl ?_
  refine e_iload_n (pc' := 15) dX3_partPurse_14 rfl rfl ?_
  refine e_iald (pc' := 16) (v := (σ.1 41 0)) dX3_partPurse_15 rfl h_41 (by decide) (by omega) (by omega) rfl ?_
  refine e_iadd (pc' := 17) dX3_partPurse_16 rfl ?_
  refine e_istore_n (pc' := 18) (L' := [some (rv 39), some (rv 1), some (iv (0 + (σ.1 41 0))), some (iv 0)]) dX3_partPurse_17 rfl (by decide) rfl ?_
  refine e_aload_n (pc' := 19) dX3_partPurse_18 rfl rfl ?_
  refine e_getR (pc' := 22) dX3_partPurse_19 rfl f_3_18 h_39 rfl ?_
  refine e_iload_n (pc' := 23) dX3_partPurse_22 rfl rfl ?_
  refine e_aload_n (pc' := 24) dX3_partPurse_23 rfl rfl ?_
  refine e_getR (pc' := 27) dX3_partPurse_24 rfl f_3_15 h_39 rfl ?_
  refine e_iload_n (pc' := 28) dX3_partPurse_27 rfl rfl ?_
  refine e_iald (pc' := 29) (v := (σ.1 41 0)) dX3_partPurse_28 rfl h_41 (by decide) (by omega) (by omega) rfl ?_
  refine e_iast (pc' := 30) dX3_partPurse_29 rfl h_42 (by decide) (by omega) (by omega) ?_
  refine e_iinc (pc' := 33) (L' := [some (rv 39), some (rv 1), some (iv (0 + (σ.1 41 0))), some (iv 1)]) dX3_partPurse_30 rfl rfl (by decide) rfl ?_
  refine e_goto (pc' := 4) dX3_partPurse_33 (by decide) ?_
  refine e_iload_n (pc' := 5) dX3_partPurse_4 rfl rfl ?_
  refine e_iconst (pc' := 6) dX3_partPurse_5 rfl ?_
  refine e_icmpI (pc' := 9) (t := 36) dX3_partPurse_6 (by decide) rfl ⟨by omega, by omega⟩ ⟨by omega, by omega⟩ (fun c2_2 => absurd (show 3 ≤ (1 : Int) from c2_2) (by decide)) (fun _ => ?_)
  refine e_iload_n (pc' := 10) dX3_partPurse_9 rfl rfl ?_
  refine e_aload_n (pc' := 11) dX3_partPurse_10 rfl rfl ?_
  refine e_getR (pc' := 14) dX3_partPurse_11 rfl f_3_15 h_39 rfl ?_
  refine e_iload_n (pc' := 15) dX3_partPurse_14 rfl rfl ?_
  refine e_iald (pc' := 16) (v := (σ.1 41 1)) dX3_partPurse_15 rfl h_41 (by decide) (by omega) (by omega) rfl ?_
  refine e_iadd (pc' := 17) dX3_partPurse_16 rfl ?_
  refine e_istore_n (pc' := 18) (L' := [some (rv 39), some (rv 1), some (iv ((0 + (σ.1 41 0)) + (σ.1 41 1))), some (iv 1)]) dX3_partPurse_17 rfl (by decide) rfl ?_
  refine e_aload_n (pc' := 19) dX3_partPurse_18 rfl rfl ?_
  refine e_getR (pc' := 22) dX3_partPurse_19 rfl f_3_18 h_39 rfl ?_
  refine e_iload_n (pc' := 23) dX3_partPurse_22 rfl rfl ?_
  refine e_aload_n (pc' := 24) dX3_partPurse_23 rfl rfl ?_
  refine e_getR (pc' := 27) dX3_partPurse_24 rfl f_3_15 h_39 rfl ?_
  refine e_iload_n (pc' := 28) dX3_partPurse_27 rfl rfl ?_
  refine e_iald (pc' := 29) (v := (σ.1 41 1)) dX3_partPurse_28 rfl h_41 (by decide) (by omega) (by omega) rfl ?_
  refine e_iast (pc' := 30) dX3_partPurse_29 rfl h_42 (by decide) (by omega) (by omega) ?_
  refine e_iinc (pc' := 33) (L' := [some (rv 39), some (rv 1), some (iv ((0 + (σ.1 41 0)) + (σ.1 41 1))), some (iv 2)]) dX3_partPurse_30 rfl rfl (by decide) rfl ?_
  refine e_goto (pc' := 4) dX3_partPurse_33 (by decide) ?_
  refine e_iload_n (pc' := 5) dX3_partPurse_4 rfl rfl ?_
  refine e_iconst (pc' := 6) dX3_partPurse_5 rfl ?_
  refine e_icmpI (pc' := 9) (t := 36) dX3_partPurse_6 (by decide) rfl ⟨by omega, by omega⟩ ⟨by omega, by omega⟩ (fun c2_3 => absurd (show 3 ≤ (2 : Int) from c2_3) (by decide)) (fun _ => ?_)
  refine e_iload_n (pc' := 10) dX3_partPurse_9 rfl rfl ?_
  refine e_aload_n (pc' := 11) dX3_partPurse_10 rfl rfl ?_
  refine e_getR (pc' := 14) dX3_partPurse_11 rfl f_3_15 h_39 rfl ?_
  refine e_iload_n (pc' := 15) dX3_partPurse_14 rfl rfl ?_
  refine e_iald (pc' := 16) (v := (σ.1 41 2)) dX3_partPurse_15 rfl h_41 (by decide) (by omega) (by omega) rfl ?_
  refine e_iadd (pc' := 17) dX3_partPurse_16 rfl ?_
  refine e_istore_n (pc' := 18) (L' := [some (rv 39), some (rv 1), some (iv (((0 + (σ.1 41 0)) + (σ.1 41 1)) + (σ.1 41 2))), some (iv 2)]) dX3_partPurse_17 rfl (by decide) rfl ?_
  refine e_aload_n (pc' := 19) dX3_partPurse_18 rfl rfl ?_
  refine e_getR (pc' := 22) dX3_partPurse_19 rfl f_3_18 h_39 rfl ?_
  refine e_iload_n (pc' := 23) dX3_partPurse_22 rfl rfl ?_
  refine e_aload_n (pc' := 24) dX3_partPurse_23 rfl rfl ?_
  refine e_getR (pc' := 27) dX3_partPurse_24 rfl f_3_15 h_39 rfl ?_
  refine e_iload_n (pc' := 28) dX3_partPurse_27 rfl rfl ?_
  refine e_iald (pc' := 29) (v := (σ.1 41 2)) dX3_partPurse_28 rfl h_41 (by decide) (by omega) (by omega) rfl ?_
  refine e_iast (pc' := 30) dX3_partPurse_29 rfl h_42 (by decide) (by omega) (by omega) ?_
  refine e_iinc (pc' := 33) (L' := [some (rv 39), some (rv 1), some (iv (((0 + (σ.1 41 0)) + (σ.1 41 1)) + (σ.1 41 2))), some (iv 3)]) dX3_partPurse_30 rfl rfl (by decide) rfl ?_
  refine e_goto (pc' := 4) dX3_partPurse_33 (by decide) ?_
  refine e_iload_n (pc' := 5) dX3_partPurse_4 rfl rfl ?_
  refine e_iconst (pc' := 6) dX3_partPurse_5 rfl ?_
  refine e_icmpI (pc' := 9) (t := 36) dX3_partPurse_6 (by decide) rfl ⟨by omega, by omega⟩ ⟨by omega, by omega⟩ (fun _ => ?_) (fun c2_4 => absurd (show 3 ≤ (3 : Int) by decide) c2_4)
  refine e_aload_n (pc' := 37) dX3_partPurse_36 rfl rfl ?_
  refine e_iload_n (pc' := 38) dX3_partPurse_37 rfl rfl ?_
  refine e_aload_n (pc' := 39) dX3_partPurse_38 rfl rfl ?_
  refine e_getI (pc' := 42) (v := (σ.1 1 10)) dX3_partPurse_39 rfl f_3_56 h_1 rfl rfl ?_
  refine e_ternC (J := 50) (pc' := 45) (t := 49) dX3_partPurse_42 (by decide) rfl ⟨by first | omega | (split <;> omega), by first | omega | (split <;> omega)⟩ ⟨by first | omega | (split <;> omega), by first | omega | (split <;> omega)⟩ dX3_partPurse_45 dX3_partPurse_46 (by decide) dX3_partPurse_49 rfl ?_
  refine e_putI (pc' := 53) dX3_partPurse_50 rfl f_3_59 h_39 rfl (by split <;> rfl) rfl ?_
  refine e_aload_n (pc' := 54) dX3_partPurse_53 rfl rfl ?_
  refine e_getI (pc' := 57) (v := (if ((((0 + (σ.1 41 0)) + (σ.1 41 1)) + (σ.1 41 2)) : Int) ≤ (σ.1 1 10) then 0 else 1)) dX3_partPurse_54 rfl f_3_59 h_39 rfl rfl ?_
  refine e_ifI (pc' := 60) (t := 61) dX3_partPurse_57 (by decide) rfl ⟨by first | omega | (split <;> omega), by first | omega | (split <;> omega)⟩ (fun (c2_6 : ((if ((((0 + (σ.1 41 0)) + (σ.1 41 1)) + (σ.1 41 2)) : Int) ≤ (σ.1 1 10) then 0 else 1) : Int) ≠ 0) => ?_) (fun (c2_6 : ¬ (((if ((((0 + (σ.1 41 0)) + (σ.1 41 1)) + (σ.1 41 2)) : Int) ≤ (σ.1 1 10) then 0 else 1) : Int) ≠ 0)) => ?_)
  · have hA : ¬ (((((0 + (σ.1 41 0)) + (σ.1 41 1)) + (σ.1 41 2)) : Int) ≤ (σ.1 1 10)) := fun q => c2_6 (by rw [if_pos q])
    refine e_aload_n (pc' := 62) dX3_partPurse_61 rfl rfl ?_
    refine e_getI (pc' := 65) (v := (σ.1 1 11)) dX3_partPurse_62 rfl f_3_63 h_1 rfl rfl ?_
    refine e_ifI (pc' := 68) (t := 80) dX3_partPurse_65 (by decide) rfl ⟨by first | omega | (split <;> omega), by first | omega | (split <;> omega)⟩ (fun (c4_7 : ((σ.1 1 11) : Int) ≠ 0) => ?_) (fun (c4_7 : ¬ (((σ.1 1 11) : Int) ≠ 0)) => ?_)
    · refine e_aload_n (pc' := 81) dX3_partPurse_80 rfl rfl ?_
      refine e_getI (pc' := 84) (v := (σ.1 1 11)) dX3_partPurse_81 rfl f_3_63 h_1 rfl rfl ?_
      refine e_iconst (pc' := 85) dX3_partPurse_84 rfl ?_
      refine e_icmpI (pc' := 88) (t := 99) dX3_partPurse_85 (by decide) rfl ⟨by first | omega | (split <;> omega), by first | omega | (split <;> omega)⟩ ⟨by omega, by omega⟩ (fun (c6_8 : ((σ.1 1 11) : Int) ≠ 1) => ?_) (fun (c6_8 : ¬ (((σ.1 1 11) : Int) ≠ 1)) => ?_)
      · refine e_aload_n (pc' := 100) dX3_partPurse_99 rfl rfl ?_
        refine e_aload_n (pc' := 101) dX3_partPurse_100 rfl rfl ?_
        refine e_getI (pc' := 104) (v := (σ.1 1 10)) dX3_partPurse_101 rfl f_3_56 h_1 rfl rfl ?_
        refine e_cv1v (pc' := 107) dX3_partPurse_104 rfl k_3_74 h_39 rfl (Nat.le_of_ble_eq_true rfl) rfl rfl ⟨rfl, rfl⟩ ⟨Nat.zero_le _, Nat.zero_le _⟩ (s_bound (σ.1 1 10) hu0 hu1 hu2 hp) ?_
        rintro τ ⟨h3, hF⟩
        exact e_vret dX3_partPurse_107 rfl ⟨rfl, Nat.le_refl _⟩ ⟨rfl, ⟨by unfold adS; rw [if_neg (by omega)]; first | (rw [if_pos (by omega), ← e0]; exact h3.1) | (rw [if_neg (by omega), if_pos (by omega)]; exact h3.1) | (rw [if_neg (by omega), if_neg (by omega)]; exact h3.1), by unfold adS; rw [if_neg (by omega)]; first | (rw [if_pos (by omega), ← e0]; exact h3.2.1) | (rw [if_neg (by omega), if_pos (by omega)]; exact h3.2.1) | (rw [if_neg (by omega), if_neg (by omega)]; exact h3.2.1), by unfold adS; rw [if_neg (by omega)]; first | (rw [if_pos (by omega), ← e0]; exact h3.2.2) | (rw [if_neg (by omega), if_pos (by omega)]; exact h3.2.2) | (rw [if_neg (by omega), if_neg (by omega)]; exact h3.2.2)⟩, (congrFun (hF 39 (by decide)).1 4).trans rfl, (show Fr [39, 42] σ (upI (upI (upI (upI σ 42 0 (σ.1 41 0)) 42 1 (σ.1 41 1)) 42 2 (σ.1 41 2)) 39 4 (if ((((0 + (σ.1 41 0)) + (σ.1 41 1)) + (σ.1 41 2)) : Int) ≤ (σ.1 1 10) then 0 else 1)) from (by repeat (first | exact Fr.rf | (refine fr_I ?_ (by decide)) | (refine fr_J ?_ (by decide)) | (refine fr_C ?_ (by decide))))).tr (hF.mono (by decide))⟩
      · refine e_aload_n (pc' := 89) dX3_partPurse_88 rfl rfl ?_
        refine e_aload_n (pc' := 90) dX3_partPurse_89 rfl rfl ?_
        refine e_getI (pc' := 93) (v := (σ.1 1 10)) dX3_partPurse_90 rfl f_3_56 h_1 rfl rfl ?_
        refine e_cv1v (pc' := 96) dX3_partPurse_93 rfl k_3_70 h_39 rfl (Nat.le_of_ble_eq_true rfl) rfl rfl ⟨rfl, rfl⟩ ⟨Nat.zero_le _, Nat.zero_le _⟩ (s_number (σ.1 1 10) hu0 hu1 hu2 hp) ?_
        rintro τ ⟨h3, hF⟩
        refine e_goto (pc' := 107) dX3_partPurse_96 (by decide) ?_
        exact e_vret dX3_partPurse_107 rfl ⟨rfl, Nat.le_refl _⟩ ⟨rfl, ⟨by unfold adS; rw [if_neg (by omega)]; first | (rw [if_pos (by omega), ← e0]; exact h3.1) | (rw [if_neg (by omega), if_pos (by omega)]; exact h3.1) | (rw [if_neg (by omega), if_neg (by omega)]; exact h3.1), by unfold adS; rw [if_neg (by omega)]; first | (rw [if_pos (by omega), ← e0]; exact h3.2.1) | (rw [if_neg (by omega), if_pos (by omega)]; exact h3.2.1) | (rw [if_neg (by omega), if_neg (by omega)]; exact h3.2.1), by unfold adS; rw [if_neg (by omega)]; first | (rw [if_pos (by omega), ← e0]; exact h3.2.2) | (rw [if_neg (by omega), if_pos (by omega)]; exact h3.2.2) | (rw [if_neg (by omega), if_neg (by omega)]; exact h3.2.2)⟩, (congrFun (hF 39 (by decide)).1 4).trans rfl, (show Fr [39, 42] σ (upI (upI (upI (upI σ 42 0 (σ.1 41 0)) 42 1 (σ.1 41 1)) 42 2 (σ.1 41 2)) 39 4 (if ((((0 + (σ.1 41 0)) + (σ.1 41 1)) + (σ.1 41 2)) : Int) ≤ (σ.1 1 10) then 0 else 1)) from (by repeat (first | exact Fr.rf | (refine fr_I ?_ (by decide)) | (refine fr_J ?_ (by decide)) | (refine fr_C ?_ (by decide))))).tr (hF.mono (by decide))⟩
    · refine e_aload_n (pc' := 69) dX3_partPurse_68 rfl rfl ?_
      refine e_aload_n (pc' := 70) dX3_partPurse_69 rfl rfl ?_
      refine e_getI (pc' := 73) (v := (σ.1 1 10)) dX3_partPurse_70 rfl f_3_56 h_1 rfl rfl ?_
      refine e_iload_n (pc' := 74) dX3_partPurse_73 rfl rfl ?_
      refine e_cv2v (pc' := 77) dX3_partPurse_74 rfl k_3_66 h_39 rfl (Nat.le_of_ble_eq_true rfl) rfl rfl ⟨rfl, rfl⟩ ⟨Nat.zero_le _, Nat.zero_le _⟩ (s_share (σ.1 1 10) (((0 + (σ.1 41 0)) + (σ.1 41 1)) + (σ.1 41 2)) hu0 hu1 hu2 hp ⟨by omega, by omega⟩) ?_
      rintro τ ⟨h3, hF⟩
      refine e_goto (pc' := 107) dX3_partPurse_77 (by decide) ?_
      exact e_vret dX3_partPurse_107 rfl ⟨rfl, Nat.le_refl _⟩ ⟨rfl, ⟨by unfold adS; rw [if_neg (by omega)]; first | (rw [if_pos (by omega), ← e0]; exact h3.1) | (rw [if_neg (by omega), if_pos (by omega)]; exact h3.1) | (rw [if_neg (by omega), if_neg (by omega)]; exact h3.1), by unfold adS; rw [if_neg (by omega)]; first | (rw [if_pos (by omega), ← e0]; exact h3.2.1) | (rw [if_neg (by omega), if_pos (by omega)]; exact h3.2.1) | (rw [if_neg (by omega), if_neg (by omega)]; exact h3.2.1), by unfold adS; rw [if_neg (by omega)]; first | (rw [if_pos (by omega), ← e0]; exact h3.2.2) | (rw [if_neg (by omega), if_pos (by omega)]; exact h3.2.2) | (rw [if_neg (by omega), if_neg (by omega)]; exact h3.2.2)⟩, (congrFun (hF 39 (by decide)).1 4).trans rfl, (show Fr [39, 42] σ (upI (upI (upI (upI σ 42 0 (σ.1 41 0)) 42 1 (σ.1 41 1)) 42 2 (σ.1 41 2)) 39 4 (if ((((0 + (σ.1 41 0)) + (σ.1 41 1)) + (σ.1 41 2)) : Int) ≤ (σ.1 1 10) then 0 else 1)) from (by repeat (first | exact Fr.rf | (refine fr_I ?_ (by decide)) | (refine fr_J ?_ (by decide)) | (refine fr_C ?_ (by decide))))).tr (hF.mono (by decide))⟩
  · have hA : ((((0 + (σ.1 41 0)) + (σ.1 41 1)) + (σ.1 41 2)) : Int) ≤ (σ.1 1 10) := Classical.byContradiction (fun q => c2_6 (by rw [if_neg q]; decide))
    exact e_vret dX3_partPurse_60 rfl ⟨rfl, Nat.le_refl _⟩ ⟨rfl, ⟨by show σ.1 41 0 = _; unfold adS; rw [if_pos (by omega)], by show σ.1 41 1 = _; unfold adS; rw [if_pos (by omega)], by show σ.1 41 2 = _; unfold adS; rw [if_pos (by omega)]⟩, rfl, (by repeat (first | exact Fr.rf | (refine fr_I ?_ (by decide)) | (refine fr_J ?_ (by decide)) | (refine fr_C ?_ (by decide))))⟩

set_option maxHeartbeats 4000000 in
set_option maxRecDepth 100000 in
theorem s_partPurse_17 {X : AX} {d : Nat} {σ : SG} (hu0 : 0 ≤ σ.1 41 0 ∧ σ.1 41 0 ≤ 99) (hu1 : 0 ≤ σ.1 41 1 ∧ σ.1 41 1 ≤ 99) (hu2 : 0 ≤ σ.1 41 2 ∧ σ.1 41 2 ≤ 99) (hp : 0 ≤ (σ.1 17 10) ∧ (σ.1 17 10) ≤ 200) (hm : 0 ≤ (σ.1 17 11) ∧ (σ.1 17 11) ≤ 2) : Ev X 0 0 (d + 2) mX3_partPurse 0 [some (rv 39), some (rv 17), none, none] [] σ (QV (fun σ' => (σ'.1 42 0 = adS (σ.1 17 11) (σ.1 17 10) (σ.1 41) 0 ∧ σ'.1 42 1 = adS (σ.1 17 11) (σ.1 17 10) (σ.1 41) 1 ∧ σ'.1 42 2 = adS (σ.1 17 11) (σ.1 17 10) (σ.1 41) 2) ∧ σ'.1 39 4 = (if ((((0 + (σ.1 41 0)) + (σ.1 41 1)) + (σ.1 41 2)) : Int) ≤ (σ.1 17 10) then 0 else 1) ∧ Fr [39, 42] σ σ')) := by
  have e0 : (((0 + (σ.1 41 0)) + (σ.1 41 1)) + (σ.1 41 2)) = σ.1 41 0 + σ.1 41 1 + σ.1 41 2 := by omega
  refine e_iconst (pc' := 1) dX3_partPurse_0 rfl ?_
  refine e_istore_n (pc' := 2) (L' := [some (rv 39), some (rv 17), some (iv 0), none]) dX3_partPurse_1 rfl (by decide) rfl ?_
  refine e_iconst (pc' := 3) dX3_partPurse_2 rfl ?_
  refine e_istore_n (pc' := 4) (L' := [some (rv 39), some (rv 17), some (iv 0), some (iv 0)]) dX3_partPurse_3 rfl (by decide) rfl ?_
  refine e_iload_n (pc' := 5) dX3_partPurse_4 rfl rfl ?_
  refine e_iconst (pc' := 6) dX3_partPurse_5 rfl ?_
  refine e_icmpI (pc' := 9) (t := 36) dX3_partPurse_6 (by decide) rfl ⟨by omega, by omega⟩ ⟨by omega, by omega⟩ (fun c2_1 => absurd (show 3 ≤ (0 : Int) from c2_1) (by decide)) (fun _ => ?_)
  refine e_iload_n (pc' := 10) dX3_partPurse_9 rfl rfl ?_
  refine e_aload_n (pc' := 11) dX3_partPurse_10 rfl rfl ?_
  refine e_getR (pc' := 14) dX3_partPurse_11 rfl f_3_15 h_39 rfl ?_
  refine e_iload_n (pc' := 15) dX3_partPurse_14 rfl rfl ?_
  refine e_iald (pc' := 16) (v := (σ.1 41 0)) dX3_partPurse_15 rfl h_41 (by decide) (by omega) (by omega) rfl ?_
  refine e_iadd (pc' := 17) dX3_partPurse_16 rfl ?_
  refine e_istore_n (pc' := 18) (L' := [some (rv 39), some (rv 17), some (iv (0 + (σ.1 41 0))), some (iv 0)]) dX3_partPurse_17 rfl (by decide) rfl ?_
  refine e_aload_n (pc' := 19) dX3_partPurse_18 rfl rfl ?_
  refine e_getR (pc' := 22) dX3_partPurse_19 rfl f_3_18 h_39 rfl ?_
  refine e_iload_n (pc' := 23) dX3_partPurse_22 rfl rfl ?_
  refine e_aload_n (pc' := 24) dX3_partPurse_23 rfl rfl ?_
  refine e_getR (pc' := 27) dX3_partPurse_24 rfl f_3_15 h_39 rfl ?_
  refine e_iload_n (pc' := 28) dX3_partPurse_27 rfl rfl ?_
  refine e_iald (pc' := 29) (v := (σ.1 41 0)) dX3_partPurse_28 rfl h_41 (by decide) (by omega) (by omega) rfl ?_
  refine e_iast (pc' := 30) dX3_partPurse_29 rfl h_42 (by decide) (by omega) (by omega) ?_
  refine e_iinc (pc' := 33) (L' := [some (rv 39), some (rv 17), some (iv (0 + (σ.1 41 0))), some (iv 1)]) dX3_partPurse_30 rfl rfl (by decide) rfl ?_
  refine e_goto (pc' := 4) dX3_partPurse_33 (by decide) ?_
  refine e_iload_n (pc' := 5) dX3_partPurse_4 rfl rfl ?_
  refine e_iconst (pc' := 6) dX3_partPurse_5 rfl ?_
  refine e_icmpI (pc' := 9) (t := 36) dX3_partPurse_6 (by decide) rfl ⟨by omega, by omega⟩ ⟨by omega, by omega⟩ (fun c2_2 => absurd (show 3 ≤ (1 : Int) from c2_2) (by decide)) (fun _ => ?_)
  refine e_iload_n (pc' := 10) dX3_partPurse_9 rfl rfl ?_
  refine e_aload_n (pc' := 11) dX3_partPurse_10 rfl rfl ?_
  refine e_getR (pc' := 14) dX3_partPurse_11 rfl f_3_15 h_39 rfl ?_
  refine e_iload_n (pc' := 15) dX3_partPurse_14 rfl rfl ?_
  refine e_iald (pc' := 16) (v := (σ.1 41 1)) dX3_partPurse_15 rfl h_41 (by decide) (by omega) (by omega) rfl ?_
  refine e_iadd (pc' := 17) dX3_partPurse_16 rfl ?_
  refine e_istore_n (pc' := 18) (L' := [some (rv 39), some (rv 17), some (iv ((0 + (σ.1 41 0)) + (σ.1 41 1))), some (iv 1)]) dX3_partPurse_17 rfl (by decide) rfl ?_
  refine e_aload_n (pc' := 19) dX3_partPurse_18 rfl rfl ?_
  refine e_getR (pc' := 22) dX3_partPurse_19 rfl f_3_18 h_39 rfl ?_
  refine e_iload_n (pc' := 23) dX3_partPurse_22 rfl rfl ?_
  refine e_aload_n (pc' := 24) dX3_partPurse_23 rfl rfl ?_
  refine e_getR (pc' := 27) dX3_partPurse_24 rfl f_3_15 h_39 rfl ?_
  refine e_iload_n (pc' := 28) dX3_partPurse_27 rfl rfl ?_
  refine e_iald (pc' := 29) (v := (σ.1 41 1)) dX3_partPurse_28 rfl h_41 (by decide) (by omega) (by omega) rfl ?_
  refine e_iast (pc' := 30) dX3_partPurse_29 rfl h_42 (by decide) (by omega) (by omega) ?_
  refine e_iinc (pc' := 33) (L' := [some (rv 39), some (rv 17), some (iv ((0 + (σ.1 41 0)) + (σ.1 41 1))), some (iv 2)]) dX3_partPurse_30 rfl rfl (by decide) rfl ?_
  refine e_goto (pc' := 4) dX3_partPurse_33 (by decide) ?_
  refine e_iload_n (pc' := 5) dX3_partPurse_4 rfl rfl ?_
  refine e_iconst (pc' := 6) dX3_partPurse_5 rfl ?_
  refine e_icmpI (pc' := 9) (t := 36) dX3_partPurse_6 (by decide) rfl ⟨by omega, by omega⟩ ⟨by omega, by omega⟩ (fun c2_3 => absurd (show 3 ≤ (2 : Int) from c2_3) (by decide)) (fun _ => ?_)
  refine e_iload_n (pc' := 10) dX3_partPurse_9 rfl rfl ?_
  refine e_aload_n (pc' := 11) dX3_partPurse_10 rfl rfl ?_
  refine e_getR (pc' := 14) dX3_partPurse_11 rfl f_3_15 h_39 rfl ?_
  refine e_iload_n (pc' := 15) dX3_partPurse_14 rfl rfl ?_
  refine e_iald (pc' := 16) (v := (σ.1 41 2)) dX3_partPurse_15 rfl h_41 (by decide) (by omega) (by omega) rfl ?_
  refine e_iadd (pc' := 17) dX3_partPurse_16 rfl ?_
  refine e_istore_n (pc' := 18) (L' := [some (rv 39), some (rv 17), some (iv (((0 + (σ.1 41 0)) + (σ.1 41 1)) + (σ.1 41 2))), some (iv 2)]) dX3_partPurse_17 rfl (by decide) rfl ?_
  refine e_aload_n (pc' := 19) dX3_partPurse_18 rfl rfl ?_
  refine e_getR (pc' := 22) dX3_partPurse_19 rfl f_3_18 h_39 rfl ?_
  refine e_iload_n (pc' := 23) dX3_partPurse_22 rfl rfl ?_
  refine e_aload_n (pc' := 24) dX3_partPurse_23 rfl rfl ?_
  refine e_getR (pc' := 27) dX3_partPurse_24 rfl f_3_15 h_39 rfl ?_
  refine e_iload_n (pc' := 28) dX3_partPurse_27 rfl rfl ?_
  refine e_iald (pc' := 29) (v := (σ.1 41 2)) dX3_partPurse_28 rfl h_41 (by decide) (by omega) (by omega) rfl ?_
  refine e_iast (pc' := 30) dX3_partPurse_29 rfl h_42 (by decide) (by omega) (by omega) ?_
  refine e_iinc (pc' := 33) (L' := [some (rv 39), some (rv 17), some (iv (((0 + (σ.1 41 0)) + (σ.1 41 1)) + (σ.1 41 2))), some (iv 3)]) dX3_partPurse_30 rfl rfl (by decide) rfl ?_
  refine e_goto (pc' := 4) dX3_partPurse_33 (by decide) ?_
  refine e_iload_n (pc' := 5) dX3_partPurse_4 rfl rfl ?_
  refine e_iconst (pc' := 6) dX3_partPurse_5 rfl ?_
  refine e_icmpI (pc' := 9) (t := 36) dX3_partPurse_6 (by decide) rfl ⟨by omega, by omega⟩ ⟨by omega, by omega⟩ (fun _ => ?_) (fun c2_4 => absurd (show 3 ≤ (3 : Int) by decide) c2_4)
  refine e_aload_n (pc' := 37) dX3_partPurse_36 rfl rfl ?_
  refine e_iload_n (pc' := 38) dX3_partPurse_37 rfl rfl ?_
  refine e_aload_n (pc' := 39) dX3_partPurse_38 rfl rfl ?_
  refine e_getI (pc' := 42) (v := (σ.1 17 10)) dX3_partPurse_39 rfl f_3_56 h_17 rfl rfl ?_
  refine e_ternC (J := 50) (pc' := 45) (t := 49) dX3_partPurse_42 (by decide) rfl ⟨by first | omega | (split <;> omega), by first | omega | (split <;> omega)⟩ ⟨by first | omega | (split <;> omega), by first | omega | (split <;> omega)⟩ dX3_partPurse_45 dX3_partPurse_46 (by decide) dX3_partPurse_49 rfl ?_
  refine e_putI (pc' := 53) dX3_partPurse_50 rfl f_3_59 h_39 rfl (by split <;> rfl) rfl ?_
  refine e_aload_n (pc' := 54) dX3_partPurse_53 rfl rfl ?_
  refine e_getI (pc' := 57) (v := (if ((((0 + (σ.1 41 0)) + (σ.1 41 1)) + (σ.1 41 2)) : Int) ≤ (σ.1 17 10) then 0 else 1)) dX3_partPurse_54 rfl f_3_59 h_39 rfl rfl ?_
  refine e_ifI (pc' := 60) (t := 61) dX3_partPurse_57 (by decide) rfl ⟨by first | omega | (split <;> omega), by first | omega | (split <;> omega)⟩ (fun (c2_6 : ((if ((((0 + (σ.1 41 0)) + (σ.1 41 1)) + (σ.1 41 2)) : Int) ≤ (σ.1 17 10) then 0 else 1) : Int) ≠ 0) => ?_) (fun (c2_6 : ¬ (((if ((((0 + (σ.1 41 0)) + (σ.1 41 1)) + (σ.1 41 2)) : Int) ≤ (σ.1 17 10) then 0 else 1) : Int) ≠ 0)) => ?_)
  · have hA : ¬ (((((0 + (σ.1 41 0)) + (σ.1 41 1)) + (σ.1 41 2)) : Int) ≤ (σ.1 17 10)) := fun q => c2_6 (by rw [if_pos q])
    refine e_aload_n (pc' := 62) dX3_partPurse_61 rfl rfl ?_
    refine e_getI (pc' := 65) (v := (σ.1 17 11)) dX3_partPurse_62 rfl f_3_63 h_17 rfl rfl ?_
    refine e_ifI (pc' := 68) (t := 80) dX3_partPurse_65 (by decide) rfl ⟨by first | omega | (split <;> omega), by first | omega | (split <;> omega)⟩ (fun (c4_7 : ((σ.1 17 11) : Int) ≠ 0) => ?_) (fun (c4_7 : ¬ (((σ.1 17 11) : Int) ≠ 0)) => ?_)
    · refine e_aload_n (pc' := 81) dX3_partPurse_80 rfl rfl ?_
      refine e_getI (pc' := 84) (v := (σ.1 17 11)) dX3_partPurse_81 rfl f_3_63 h_17 rfl rfl ?_
      refine e_iconst (pc' := 85) dX3_partPurse_84 rfl ?_
      refine e_icmpI (pc' := 88) (t := 99) dX3_partPurse_85 (by decide) rfl ⟨by first | omega | (split <;> omega), by first | omega | (split <;> omega)⟩ ⟨by omega, by omega⟩ (fun (c6_8 : ((σ.1 17 11) : Int) ≠ 1) => ?_) (fun (c6_8 : ¬ (((σ.1 17 11) : Int) ≠ 1)) => ?_)
      · refine e_aload_n (pc' := 100) dX3_partPurse_99 rfl rfl ?_
        refine e_aload_n (pc' := 101) dX3_partPurse_100 rfl rfl ?_
        refine e_getI (pc' := 104) (v := (σ.1 17 10)) dX3_partPurse_101 rfl f_3_56 h_17 rfl rfl ?_
        refine e_cv1v (pc' := 107) dX3_partPurse_104 rfl k_3_74 h_39 rfl (Nat.le_of_ble_eq_true rfl) rfl rfl ⟨rfl, rfl⟩ ⟨Nat.zero_le _, Nat.zero_le _⟩ (s_bound (σ.1 17 10) hu0 hu1 hu2 hp) ?_
        rintro τ ⟨h3, hF⟩
        exact e_vret dX3_partPurse_107 rfl ⟨rfl, Nat.le_refl _⟩ ⟨rfl, ⟨by unfold adS; rw [if_neg (by omega)]; first | (rw [if_pos (by omega), ← e0]; exact h3.1) | (rw [if_neg (by omega), if_pos (by omega)]; exact h3.1) | (rw [if_neg (by omega), if_neg (by omega)]; exact h3.1), by unfold adS; rw [if_neg (by omega)]; first | (rw [if_pos (by omega), ← e0]; exact h3.2.1) | (rw [if_neg (by omega), if_pos (by omega)]; exact h3.2.1) | (rw [if_neg (by omega), if_neg (by omega)]; exact h3.2.1), by unfold adS; rw [if_neg (by omega)]; first | (rw [if_pos (by omega), ← e0]; exact h3.2.2) | (rw [if_neg (by omega), if_pos (by omega)]; exact h3.2.2) | (rw [if_neg (by omega), if_neg (by omega)]; exact h3.2.2)⟩, (congrFun (hF 39 (by decide)).1 4).trans rfl, (show Fr [39, 42] σ (upI (upI (upI (upI σ 42 0 (σ.1 41 0)) 42 1 (σ.1 41 1)) 42 2 (σ.1 41 2)) 39 4 (if ((((0 + (σ.1 41 0)) + (σ.1 41 1)) + (σ.1 41 2)) : Int) ≤ (σ.1 17 10) then 0 else 1)) from (by repeat (first | exact Fr.rf | (refine fr_I ?_ (by decide)) | (refine fr_J ?_ (by decide)) | (refine fr_C ?_ (by decide))))).tr (hF.mono (by decide))⟩
      · refine e_aload_n (pc' := 89) dX3_partPurse_88 rfl rfl ?_
        refine e_aload_n (pc' := 90) dX3_partPurse_89 rfl rfl ?_
        refine e_getI (pc' := 93) (v := (σ.1 17 10)) dX3_partPurse_90 rfl f_3_56 h_17 rfl rfl ?_
        refine e_cv1v (pc' := 96) dX3_partPurse_93 rfl k_3_70 h_39 rfl (Nat.le_of_ble_eq_true rfl) rfl rfl ⟨rfl, rfl⟩ ⟨Nat.zero_le _, Nat.zero_le _⟩ (s_number (σ.1 17 10) hu0 hu1 hu2 hp) ?_
        rintro τ ⟨h3, hF⟩
        refine e_goto (pc' := 107) dX3_partPurse_96 (by decide) ?_
        exact e_vret dX3_partPurse_107 rfl ⟨rfl, Nat.le_refl _⟩ ⟨rfl, ⟨by unfold adS; rw [if_neg (by omega)]; first | (rw [if_pos (by omega), ← e0]; exact h3.1) | (rw [if_neg (by omega), if_pos (by omega)]; exact h3.1) | (rw [if_neg (by omega), if_neg (by omega)]; exact h3.1), by unfold adS; rw [if_neg (by omega)]; first | (rw [if_pos (by omega), ← e0]; exact h3.2.1) | (rw [if_neg (by omega), if_pos (by omega)]; exact h3.2.1) | (rw [if_neg (by omega), if_neg (by omega)]; exact h3.2.1), by unfold adS; rw [if_neg (by omega)]; first | (rw [if_pos (by omega), ← e0]; exact h3.2.2) | (rw [if_neg (by omega), if_pos (by omega)]; exact h3.2.2) | (rw [if_neg (by omega), if_neg (by omega)]; exact h3.2.2)⟩, (congrFun (hF 39 (by decide)).1 4).trans rfl, (show Fr [39, 42] σ (upI (upI (upI (upI σ 42 0 (σ.1 41 0)) 42 1 (σ.1 41 1)) 42 2 (σ.1 41 2)) 39 4 (if ((((0 + (σ.1 41 0)) + (σ.1 41 1)) + (σ.1 41 2)) : Int) ≤ (σ.1 17 10) then 0 else 1)) from (by repeat (first | exact Fr.rf | (refine fr_I ?_ (by decide)) | (refine fr_J ?_ (by decide)) | (refine fr_C ?_ (by decide))))).tr (hF.mono (by decide))⟩
    · refine e_aload_n (pc' := 69) dX3_partPurse_68 rfl rfl ?_
      refine e_aload_n (pc' := 70) dX3_partPurse_69 rfl rfl ?_
      refine e_getI (pc' := 73) (v := (σ.1 17 10)) dX3_partPurse_70 rfl f_3_56 h_17 rfl rfl ?_
      refine e_iload_n (pc' := 74) dX3_partPurse_73 rfl rfl ?_
      refine e_cv2v (pc' := 77) dX3_partPurse_74 rfl k_3_66 h_39 rfl (Nat.le_of_ble_eq_true rfl) rfl rfl ⟨rfl, rfl⟩ ⟨Nat.zero_le _, Nat.zero_le _⟩ (s_share (σ.1 17 10) (((0 + (σ.1 41 0)) + (σ.1 41 1)) + (σ.1 41 2)) hu0 hu1 hu2 hp ⟨by omega, by omega⟩) ?_
      rintro τ ⟨h3, hF⟩
      refine e_goto (pc' := 107) dX3_partPurse_77 (by decide) ?_
      exact e_vret dX3_partPurse_107 rfl ⟨rfl, Nat.le_refl _⟩ ⟨rfl, ⟨by unfold adS; rw [if_neg (by omega)]; first | (rw [if_pos (by omega), ← e0]; exact h3.1) | (rw [if_neg (by omega), if_pos (by omega)]; exact h3.1) | (rw [if_neg (by omega), if_neg (by omega)]; exact h3.1), by unfold adS; rw [if_neg (by omega)]; first | (rw [if_pos (by omega), ← e0]; exact h3.2.1) | (rw [if_neg (by omega), if_pos (by omega)]; exact h3.2.1) | (rw [if_neg (by omega), if_neg (by omega)]; exact h3.2.1), by unfold adS; rw [if_neg (by omega)]; first | (rw [if_pos (by omega), ← e0]; exact h3.2.2) | (rw [if_neg (by omega), if_pos (by omega)]; exact h3.2.2) | (rw [if_neg (by omega), if_neg (by omega)]; exact h3.2.2)⟩, (congrFun (hF 39 (by decide)).1 4).trans rfl, (show Fr [39, 42] σ (upI (upI (upI (upI σ 42 0 (σ.1 41 0)) 42 1 (σ.1 41 1)) 42 2 (σ.1 41 2)) 39 4 (if ((((0 + (σ.1 41 0)) + (σ.1 41 1)) + (σ.1 41 2)) : Int) ≤ (σ.1 17 10) then 0 else 1)) from (by repeat (first | exact Fr.rf | (refine fr_I ?_ (by decide)) | (refine fr_J ?_ (by decide)) | (refine fr_C ?_ (by decide))))).tr (hF.mono (by decide))⟩
  · have hA : ((((0 + (σ.1 41 0)) + (σ.1 41 1)) + (σ.1 41 2)) : Int) ≤ (σ.1 17 10) := Classical.byContradiction (fun q => c2_6 (by rw [if_neg q]; decide))
    exact e_vret dX3_partPurse_60 rfl ⟨rfl, Nat.le_refl _⟩ ⟨rfl, ⟨by show σ.1 41 0 = _; unfold adS; rw [if_pos (by omega)], by show σ.1 41 1 = _; unfold adS; rw [if_pos (by omega)], by show σ.1 41 2 = _; unfold adS; rw [if_pos (by omega)]⟩, rfl, (by repeat (first | exact Fr.rf | (refine fr_I ?_ (by decide)) | (refine fr_J ?_ (by decide)) | (refine fr_C ?_ (by decide))))⟩
