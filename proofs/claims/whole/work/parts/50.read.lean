theorem rdS_s {T : Int → Int} {m : Nat} {i : Int} (hi : i = (m : Int)) (h : (rdS T m).2.2.2.2.2 = -1) : rdS T (m + 1) = chS (rdS T m) i (T i) := by
  subst hi
  exact if_pos h

set_option maxHeartbeats 4000000 in
set_option maxRecDepth 100000 in
theorem s_readCharacter_8 {X : AX} {d : Nat} {σ : SG} (n : Int) (st wt : List Int) (br dg wu fl : Int) (hI : RsI σ 8 n (st, wt, br, dg, wu, fl)) (hk : rsOK (st, wt, br, dg, wu, fl)) (p c : Int) (hp : 0 ≤ p ∧ p < 40) (hc : σ.1 9 p = c) (hcc : chr7 c) : Ev X 0 0 (d + 4) mX5_readCharacter 0 [some (rv 35), some (rv 8), some (iv p), none, none] [] σ (QV (fun σ' => RsI σ' 8 n (chS (st, wt, br, dg, wu, fl) p c) ∧ Fr [35, 36, 8, 10] σ σ')) := by
  obtain ⟨hk1, hk2, hk3, hk4, hk5, hk6, hk7⟩ := id hk
  simp only at hk1 hk2 hk3 hk4 hk5 hk6 hk7
  obtain ⟨hc1, hc2⟩ := id hcc
  refine e_aload_n (pc' := 1) dX5_readCharacter_0 rfl rfl ?_
  refine e_getR (pc' := 4) dX5_readCharacter_1 rfl f_5_47 h_8 rfl ?_
  refine e_iload_n (pc' := 5) dX5_readCharacter_4 rfl rfl ?_
  refine e_iald (pc' := 6) (v := c) dX5_readCharacter_5 rfl h_9 (by decide) (by omega) (by omega) hc ?_
  refine e_istore_n (pc' := 7) (L' := [some (rv 35), some (rv 8), some (iv p), some (iv c), none]) dX5_readCharacter_6 rfl (by decide) rfl ?_
  refine e_iload_n (pc' := 8) dX5_readCharacter_7 rfl rfl ?_
  refine e_bipush (pc' := 10) (z := 48) dX5_readCharacter_8 rfl (by decide) ?_
  refine e_icmpI (pc' := 13) (t := 30) dX5_readCharacter_10 (by decide) rfl ⟨by omega, by omega⟩ ⟨by omega, by omega⟩ (fun (c2_1 : (c : Int) < 48) => ?_) (fun (c2_1 : ¬ ((c : Int) < 48)) => ?_)
  · refine e_aload_n (pc' := 31) dX5_readCharacter_30 rfl rfl ?_
    refine e_iconst (pc' := 32) dX5_readCharacter_31 rfl ?_
    refine e_putI (pc' := 35) dX5_readCharacter_32 rfl f_5_22 h_35 rfl rfl rfl ?_
    have hI0 : RsI (upI σ 35 3 0) 8 n (st, wt, br, 0, wu, fl) := ⟨hI.1, hI.2.1, rfl, hI.2.2.2.1, hI.2.2.2.2.1, hI.2.2.2.2.2.1, hI.2.2.2.2.2.2.1, hI.2.2.2.2.2.2.2.1, hI.2.2.2.2.2.2.2.2⟩
    have hk0 : rsOK (st, wt, br, 0, wu, fl) := d0S_ok hk
    have hF0 : Fr [35, 36, 8, 10] σ (upI σ 35 3 0) := fr_I Fr.rf (by decide)
    refine e_iload_n (pc' := 36) dX5_readCharacter_35 rfl rfl ?_
    refine e_bipush (pc' := 38) (z := 32) dX5_readCharacter_36 rfl (by decide) ?_
    refine e_icmpI (pc' := 41) (t := 42) dX5_readCharacter_38 (by decide) rfl ⟨by omega, by omega⟩ ⟨by omega, by omega⟩ (fun (c4_2 : (c : Int) ≠ 32) => ?_) (fun (c4_2 : ¬ ((c : Int) ≠ 32)) => ?_)
    · refine e_aload_n (pc' := 43) dX5_readCharacter_42 rfl rfl ?_
      refine e_getI (pc' := 46) (v := wu) dX5_readCharacter_43 rfl f_5_25 h_35 rfl hI.2.2.2.1 ?_
      refine e_ifI (pc' := 49) (t := 58) dX5_readCharacter_46 (by decide) rfl ⟨by omega, by omega⟩ (fun (c6_3 : (wu : Int) = 0) => ?_) (fun (c6_3 : ¬ ((wu : Int) = 0)) => ?_)
      · refine e_aload_n (pc' := 59) dX5_readCharacter_58 rfl rfl ?_
        refine e_aload_n (pc' := 60) dX5_readCharacter_59 rfl rfl ?_
        refine e_iload_n (pc' := 61) dX5_readCharacter_60 rfl rfl ?_
        refine e_cv2i (pc' := 64) dX5_readCharacter_61 rfl k_5_58 h_35 rfl (Nat.le_of_ble_eq_true rfl) rfl rfl ⟨rfl, rfl⟩ ⟨Nat.zero_le _, Nat.zero_le _⟩ (s_readBehindUnit_8 n st wt br 0 wu fl hI0 hk0 c hcc) ?_
        rintro v2 τ2 ⟨hv2, hI2, hF2⟩
        have hok := buS_ok hk0 hcc
        have hv01 : v2 = 0 ∨ v2 = 1 := by rw [hv2]; exact hok.2
        have hflr := hok.1.2.2.2.2.2.1
        have hF02 := hF0.tr hF2
        refine e_istore (pc' := 66) (L' := [some (rv 35), some (rv 8), some (iv p), some (iv c), some (iv v2)]) dX5_readCharacter_64 rfl (by decide) rfl ?_
        refine e_iload (pc' := 68) dX5_readCharacter_66 rfl rfl ?_
        refine e_ifI (pc' := 71) (t := 89) dX5_readCharacter_68 (by decide) rfl ⟨by omega, by omega⟩ (fun (c8_4 : (v2 : Int) ≠ 0) => ?_) (fun (c8_4 : ¬ ((v2 : Int) ≠ 0)) => ?_)
        · exact e_vret dX5_readCharacter_89 rfl ⟨rfl, Nat.le_refl _⟩ ⟨rfl, by have e0 : chS (st, wt, br, dg, wu, fl) p c = flS (buS (st, wt, br, 0, wu, fl) c) p := (by unfold chS d0S; dsimp only; (repeat (first | (rw [if_pos (by omega)]) | (rw [if_neg (by omega)])))); have e1 : flS (buS (st, wt, br, 0, wu, fl) c) p = (buS (st, wt, br, 0, wu, fl) c).1 := (by unfold flS; rw [← hv2, if_neg (by omega)]); rw [e0, e1]; exact hI2, hF02⟩
        · refine e_aload_n (pc' := 72) dX5_readCharacter_71 rfl rfl ?_
          refine e_getI (pc' := 75) (v := ((buS (st, wt, br, 0, wu, fl) c).1.2.2.2.2.2)) dX5_readCharacter_72 rfl f_5_34 h_8 rfl hI2.2.2.2.2.2.2.1 ?_
          refine e_iconst (pc' := 76) dX5_readCharacter_75 rfl ?_
          refine e_icmpI (pc' := 79) (t := 89) dX5_readCharacter_76 (by decide) rfl ⟨by omega, by omega⟩ ⟨by omega, by omega⟩ (fun (c10_5 : (((buS (st, wt, br, 0, wu, fl) c).1.2.2.2.2.2) : Int) ≠ (-1)) => ?_) (fun (c10_5 : ¬ ((((buS (st, wt, br, 0, wu, fl) c).1.2.2.2.2.2) : Int) ≠ (-1))) => ?_)
          · exact e_vret dX5_readCharacter_89 rfl ⟨rfl, Nat.le_refl _⟩ ⟨rfl, by have e0 : chS (st, wt, br, dg, wu, fl) p c = flS (buS (st, wt, br, 0, wu, fl) c) p := (by unfold chS d0S; dsimp only; (repeat (first | (rw [if_pos (by omega)]) | (rw [if_neg (by omega)])))); have e1 : flS (buS (st, wt, br, 0, wu, fl) c) p = (buS (st, wt, br, 0, wu, fl) c).1 := (by unfold flS; rw [← hv2, if_neg (by omega)]); rw [e0, e1]; exact hI2, hF02⟩
          · refine e_aload_n (pc' := 80) dX5_readCharacter_79 rfl rfl ?_
            refine e_bipush (pc' := 82) (z := 10) dX5_readCharacter_80 rfl (by decide) ?_
            refine e_iload_n (pc' := 83) dX5_readCharacter_82 rfl rfl ?_
            refine e_imul (pc' := 84) dX5_readCharacter_83 rfl ?_
            refine e_iconst (pc' := 85) dX5_readCharacter_84 rfl ?_
            refine e_iadd (pc' := 86) dX5_readCharacter_85 rfl ?_
            refine e_putI (pc' := 89) dX5_readCharacter_86 rfl f_5_34 h_8 rfl rfl rfl ?_
            exact e_vret dX5_readCharacter_89 rfl ⟨rfl, Nat.le_refl _⟩ ⟨rfl, by have e0 : chS (st, wt, br, dg, wu, fl) p c = flS (buS (st, wt, br, 0, wu, fl) c) p := (by unfold chS d0S; dsimp only; (repeat (first | (rw [if_pos (by omega)]) | (rw [if_neg (by omega)])))); have e1 : flS (buS (st, wt, br, 0, wu, fl) c) p = ((buS (st, wt, br, 0, wu, fl) c).1.1, (buS (st, wt, br, 0, wu, fl) c).1.2.1, (buS (st, wt, br, 0, wu, fl) c).1.2.2.1, (buS (st, wt, br, 0, wu, fl) c).1.2.2.2.1, (buS (st, wt, br, 0, wu, fl) c).1.2.2.2.2.1, 10 * p + 1) := (by unfold flS; rw [← hv2, if_pos (by omega)]); rw [e0, e1]; exact ⟨hI2.1, hI2.2.1, hI2.2.2.1, hI2.2.2.2.1, hI2.2.2.2.2.1, hI2.2.2.2.2.2.1, rfl, hI2.2.2.2.2.2.2.2.1, hI2.2.2.2.2.2.2.2.2⟩, fr_I hF02 (by decide)⟩
      · refine e_aload_n (pc' := 50) dX5_readCharacter_49 rfl rfl ?_
        refine e_aload_n (pc' := 51) dX5_readCharacter_50 rfl rfl ?_
        refine e_iload_n (pc' := 52) dX5_readCharacter_51 rfl rfl ?_
        refine e_cv2i (pc' := 55) dX5_readCharacter_52 rfl k_5_54 h_35 rfl (Nat.le_of_ble_eq_true rfl) rfl rfl ⟨rfl, rfl⟩ ⟨Nat.zero_le _, Nat.zero_le _⟩ (s_readUnit_8 n st wt br 0 wu fl hI0 hk0 p c hp hc hcc) ?_
        rintro v2 τ2 ⟨hv2, hI2, hF2⟩
        have hok := cuS_ok hk0 hp hcc
        have hv01 : v2 = 0 ∨ v2 = 1 := by rw [hv2]; exact hok.2
        have hflr := hok.1.2.2.2.2.2.1
        have hF02 := hF0.tr hF2
        refine e_goto (pc' := 64) dX5_readCharacter_55 (by decide) ?_
        refine e_istore (pc' := 66) (L' := [some (rv 35), some (rv 8), some (iv p), some (iv c), some (iv v2)]) dX5_readCharacter_64 rfl (by decide) rfl ?_
        refine e_iload (pc' := 68) dX5_readCharacter_66 rfl rfl ?_
        refine e_ifI (pc' := 71) (t := 89) dX5_readCharacter_68 (by decide) rfl ⟨by omega, by omega⟩ (fun (c8_4 : (v2 : Int) ≠ 0) => ?_) (fun (c8_4 : ¬ ((v2 : Int) ≠ 0)) => ?_)
        · exact e_vret dX5_readCharacter_89 rfl ⟨rfl, Nat.le_refl _⟩ ⟨rfl, by have e0 : chS (st, wt, br, dg, wu, fl) p c = flS (cuS (st, wt, br, 0, wu, fl) p c) p := (by unfold chS d0S; dsimp only; (repeat (first | (rw [if_pos (by omega)]) | (rw [if_neg (by omega)])))); have e1 : flS (cuS (st, wt, br, 0, wu, fl) p c) p = (cuS (st, wt, br, 0, wu, fl) p c).1 := (by unfold flS; rw [← hv2, if_neg (by omega)]); rw [e0, e1]; exact hI2, hF02⟩
        · refine e_aload_n (pc' := 72) dX5_readCharacter_71 rfl rfl ?_
          refine e_getI (pc' := 75) (v := ((cuS (st, wt, br, 0, wu, fl) p c).1.2.2.2.2.2)) dX5_readCharacter_72 rfl f_5_34 h_8 rfl hI2.2.2.2.2.2.2.1 ?_
          refine e_iconst (pc' := 76) dX5_readCharacter_75 rfl ?_
          refine e_icmpI (pc' := 79) (t := 89) dX5_readCharacter_76 (by decide) rfl ⟨by omega, by omega⟩ ⟨by omega, by omega⟩ (fun (c10_5 : (((cuS (st, wt, br, 0, wu, fl) p c).1.2.2.2.2.2) : Int) ≠ (-1)) => ?_) (fun (c10_5 : ¬ ((((cuS (st, wt, br, 0, wu, fl) p c).1.2.2.2.2.2) : Int) ≠ (-1))) => ?_)
          · exact e_vret dX5_readCharacter_89 rfl ⟨rfl, Nat.le_refl _⟩ ⟨rfl, by have e0 : chS (st, wt, br, dg, wu, fl) p c = flS (cuS (st, wt, br, 0, wu, fl) p c) p := (by unfold chS d0S; dsimp only; (repeat (first | (rw [if_pos (by omega)]) | (rw [if_neg (by omega)])))); have e1 : flS (cuS (st, wt, br, 0, wu, fl) p c) p = (cuS (st, wt, br, 0, wu, fl) p c).1 := (by unfold flS; rw [← hv2, if_neg (by omega)]); rw [e0, e1]; exact hI2, hF02⟩
          · refine e_aload_n (pc' := 80) dX5_readCharacter_79 rfl rfl ?_
            refine e_bipush (pc' := 82) (z := 10) dX5_readCharacter_80 rfl (by decide) ?_
            refine e_iload_n (pc' := 83) dX5_readCharacter_82 rfl rfl ?_
            refine e_imul (pc' := 84) dX5_readCharacter_83 rfl ?_
            refine e_iconst (pc' := 85) dX5_readCharacter_84 rfl ?_
            refine e_iadd (pc' := 86) dX5_readCharacter_85 rfl ?_
            refine e_putI (pc' := 89) dX5_readCharacter_86 rfl f_5_34 h_8 rfl rfl rfl ?_
            exact e_vret dX5_readCharacter_89 rfl ⟨rfl, Nat.le_refl _⟩ ⟨rfl, by have e0 : chS (st, wt, br, dg, wu, fl) p c = flS (cuS (st, wt, br, 0, wu, fl) p c) p := (by unfold chS d0S; dsimp only; (repeat (first | (rw [if_pos (by omega)]) | (rw [if_neg (by omega)])))); have e1 : flS (cuS (st, wt, br, 0, wu, fl) p c) p = ((cuS (st, wt, br, 0, wu, fl) p c).1.1, (cuS (st, wt, br, 0, wu, fl) p c).1.2.1, (cuS (st, wt, br, 0, wu, fl) p c).1.2.2.1, (cuS (st, wt, br, 0, wu, fl) p c).1.2.2.2.1, (cuS (st, wt, br, 0, wu, fl) p c).1.2.2.2.2.1, 10 * p + 1) := (by unfold flS; rw [← hv2, if_pos (by omega)]); rw [e0, e1]; exact ⟨hI2.1, hI2.2.1, hI2.2.2.1, hI2.2.2.2.1, hI2.2.2.2.2.1, hI2.2.2.2.2.2.1, rfl, hI2.2.2.2.2.2.2.2.1, hI2.2.2.2.2.2.2.2.2⟩, fr_I hF02 (by decide)⟩
    · exact e_vret dX5_readCharacter_41 rfl ⟨rfl, Nat.le_refl _⟩ ⟨rfl, by unfold chS; rw [if_neg (by omega), if_pos (by omega)]; exact hI0, hF0⟩
  · refine e_iload_n (pc' := 14) dX5_readCharacter_13 rfl rfl ?_
    refine e_bipush (pc' := 16) (z := 57) dX5_readCharacter_14 rfl (by decide) ?_
    refine e_icmpI (pc' := 19) (t := 30) dX5_readCharacter_16 (by decide) rfl ⟨by omega, by omega⟩ ⟨by omega, by omega⟩ (fun (c4_2 : 57 < (c : Int)) => ?_) (fun (c4_2 : ¬ (57 < (c : Int))) => ?_)
    · refine e_aload_n (pc' := 31) dX5_readCharacter_30 rfl rfl ?_
      refine e_iconst (pc' := 32) dX5_readCharacter_31 rfl ?_
      refine e_putI (pc' := 35) dX5_readCharacter_32 rfl f_5_22 h_35 rfl rfl rfl ?_
      have hI0 : RsI (upI σ 35 3 0) 8 n (st, wt, br, 0, wu, fl) := ⟨hI.1, hI.2.1, rfl, hI.2.2.2.1, hI.2.2.2.2.1, hI.2.2.2.2.2.1, hI.2.2.2.2.2.2.1, hI.2.2.2.2.2.2.2.1, hI.2.2.2.2.2.2.2.2⟩
      have hk0 : rsOK (st, wt, br, 0, wu, fl) := d0S_ok hk
      have hF0 : Fr [35, 36, 8, 10] σ (upI σ 35 3 0) := fr_I Fr.rf (by decide)
      refine e_iload_n (pc' := 36) dX5_readCharacter_35 rfl rfl ?_
      refine e_bipush (pc' := 38) (z := 32) dX5_readCharacter_36 rfl (by decide) ?_
      refine e_icmpI (pc' := 41) (t := 42) dX5_readCharacter_38 (by decide) rfl ⟨by omega, by omega⟩ ⟨by omega, by omega⟩ (fun (c6_3 : (c : Int) ≠ 32) => ?_) (fun (c6_3 : ¬ ((c : Int) ≠ 32)) => ?_)
      · refine e_aload_n (pc' := 43) dX5_readCharacter_42 rfl rfl ?_
        refine e_getI (pc' := 46) (v := wu) dX5_readCharacter_43 rfl f_5_25 h_35 rfl hI.2.2.2.1 ?_
        refine e_ifI (pc' := 49) (t := 58) dX5_readCharacter_46 (by decide) rfl ⟨by omega, by omega⟩ (fun (c8_4 : (wu : Int) = 0) => ?_) (fun (c8_4 : ¬ ((wu : Int) = 0)) => ?_)
        · refine e_aload_n (pc' := 59) dX5_readCharacter_58 rfl rfl ?_
          refine e_aload_n (pc' := 60) dX5_readCharacter_59 rfl rfl ?_
          refine e_iload_n (pc' := 61) dX5_readCharacter_60 rfl rfl ?_
          refine e_cv2i (pc' := 64) dX5_readCharacter_61 rfl k_5_58 h_35 rfl (Nat.le_of_ble_eq_true rfl) rfl rfl ⟨rfl, rfl⟩ ⟨Nat.zero_le _, Nat.zero_le _⟩ (s_readBehindUnit_8 n st wt br 0 wu fl hI0 hk0 c hcc) ?_
          rintro v2 τ2 ⟨hv2, hI2, hF2⟩
          have hok := buS_ok hk0 hcc
          have hv01 : v2 = 0 ∨ v2 = 1 := by rw [hv2]; exact hok.2
          have hflr := hok.1.2.2.2.2.2.1
          have hF02 := hF0.tr hF2
          refine e_istore (pc' := 66) (L' := [some (rv 35), some (rv 8), some (iv p), some (iv c), some (iv v2)]) dX5_readCharacter_64 rfl (by decide) rfl ?_
          refine e_iload (pc' := 68) dX5_readCharacter_66 rfl rfl ?_
          refine e_ifI (pc' := 71) (t := 89) dX5_readCharacter_68 (by decide) rfl ⟨by omega, by omega⟩ (fun (c10_5 : (v2 : Int) ≠ 0) => ?_) (fun (c10_5 : ¬ ((v2 : Int) ≠ 0)) => ?_)
          · exact e_vret dX5_readCharacter_89 rfl ⟨rfl, Nat.le_refl _⟩ ⟨rfl, by have e0 : chS (st, wt, br, dg, wu, fl) p c = flS (buS (st, wt, br, 0, wu, fl) c) p := (by unfold chS d0S; dsimp only; (repeat (first | (rw [if_pos (by omega)]) | (rw [if_neg (by omega)])))); have e1 : flS (buS (st, wt, br, 0, wu, fl) c) p = (buS (st, wt, br, 0, wu, fl) c).1 := (by unfold flS; rw [← hv2, if_neg (by omega)]); rw [e0, e1]; exact hI2, hF02⟩
          · refine e_aload_n (pc' := 72) dX5_readCharacter_71 rfl rfl ?_
            refine e_getI (pc' := 75) (v := ((buS (st, wt, br, 0, wu, fl) c).1.2.2.2.2.2)) dX5_readCharacter_72 rfl f_5_34 h_8 rfl hI2.2.2.2.2.2.2.1 ?_
            refine e_iconst (pc' := 76) dX5_readCharacter_75 rfl ?_
            refine e_icmpI (pc' := 79) (t := 89) dX5_readCharacter_76 (by decide) rfl ⟨by omega, by omega⟩ ⟨by omega, by omega⟩ (fun (c12_6 : (((buS (st, wt, br, 0, wu, fl) c).1.2.2.2.2.2) : Int) ≠ (-1)) => ?_) (fun (c12_6 : ¬ ((((buS (st, wt, br, 0, wu, fl) c).1.2.2.2.2.2) : Int) ≠ (-1))) => ?_)
            · exact e_vret dX5_readCharacter_89 rfl ⟨rfl, Nat.le_refl _⟩ ⟨rfl, by have e0 : chS (st, wt, br, dg, wu, fl) p c = flS (buS (st, wt, br, 0, wu, fl) c) p := (by unfold chS d0S; dsimp only; (repeat (first | (rw [if_pos (by omega)]) | (rw [if_neg (by omega)])))); have e1 : flS (buS (st, wt, br, 0, wu, fl) c) p = (buS (st, wt, br, 0, wu, fl) c).1 := (by unfold flS; rw [← hv2, if_neg (by omega)]); rw [e0, e1]; exact hI2, hF02⟩
            · refine e_aload_n (pc' := 80) dX5_readCharacter_79 rfl rfl ?_
              refine e_bipush (pc' := 82) (z := 10) dX5_readCharacter_80 rfl (by decide) ?_
              refine e_iload_n (pc' := 83) dX5_readCharacter_82 rfl rfl ?_
              refine e_imul (pc' := 84) dX5_readCharacter_83 rfl ?_
              refine e_iconst (pc' := 85) dX5_readCharacter_84 rfl ?_
              refine e_iadd (pc' := 86) dX5_readCharacter_85 rfl ?_
              refine e_putI (pc' := 89) dX5_readCharacter_86 rfl f_5_34 h_8 rfl rfl rfl ?_
              exact e_vret dX5_readCharacter_89 rfl ⟨rfl, Nat.le_refl _⟩ ⟨rfl, by have e0 : chS (st, wt, br, dg, wu, fl) p c = flS (buS (st, wt, br, 0, wu, fl) c) p := (by unfold chS d0S; dsimp only; (repeat (first | (rw [if_pos (by omega)]) | (rw [if_neg (by omega)])))); have e1 : flS (buS (st, wt, br, 0, wu, fl) c) p = ((buS (st, wt, br, 0, wu, fl) c).1.1, (buS (st, wt, br, 0, wu, fl) c).1.2.1, (buS (st, wt, br, 0, wu, fl) c).1.2.2.1, (buS (st, wt, br, 0, wu, fl) c).1.2.2.2.1, (buS (st, wt, br, 0, wu, fl) c).1.2.2.2.2.1, 10 * p + 1) := (by unfold flS; rw [← hv2, if_pos (by omega)]); rw [e0, e1]; exact ⟨hI2.1, hI2.2.1, hI2.2.2.1, hI2.2.2.2.1, hI2.2.2.2.2.1, hI2.2.2.2.2.2.1, rfl, hI2.2.2.2.2.2.2.2.1, hI2.2.2.2.2.2.2.2.2⟩, fr_I hF02 (by decide)⟩
        · refine e_aload_n (pc' := 50) dX5_readCharacter_49 rfl rfl ?_
          refine e_aload_n (pc' := 51) dX5_readCharacter_50 rfl rfl ?_
          refine e_iload_n (pc' := 52) dX5_readCharacter_51 rfl rfl ?_
          refine e_cv2i (pc' := 55) dX5_readCharacter_52 rfl k_5_54 h_35 rfl (Nat.le_of_ble_eq_true rfl) rfl rfl ⟨rfl, rfl⟩ ⟨Nat.zero_le _, Nat.zero_le _⟩ (s_readUnit_8 n st wt br 0 wu fl hI0 hk0 p c hp hc hcc) ?_
          rintro v2 τ2 ⟨hv2, hI2, hF2⟩
          have hok := cuS_ok hk0 hp hcc
          have hv01 : v2 = 0 ∨ v2 = 1 := by rw [hv2]; exact hok.2
          have hflr := hok.1.2.2.2.2.2.1
          have hF02 := hF0.tr hF2
          refine e_goto (pc' := 64) dX5_readCharacter_55 (by decide) ?_
          refine e_istore (pc' := 66) (L' := [some (rv 35), some (rv 8), some (iv p), some (iv c), some (iv v2)]) dX5_readCharacter_64 rfl (by decide) rfl ?_
          refine e_iload (pc' := 68) dX5_readCharacter_66 rfl rfl ?_
          refine e_ifI (pc' := 71) (t := 89) dX5_readCharacter_68 (by decide) rfl ⟨by omega, by omega⟩ (fun (c10_5 : (v2 : Int) ≠ 0) => ?_) (fun (c10_5 : ¬ ((v2 : Int) ≠ 0)) => ?_)
          · exact e_vret dX5_readCharacter_89 rfl ⟨rfl, Nat.le_refl _⟩ ⟨rfl, by have e0 : chS (st, wt, br, dg, wu, fl) p c = flS (cuS (st, wt, br, 0, wu, fl) p c) p := (by unfold chS d0S; dsimp only; (repeat (first | (rw [if_pos (by omega)]) | (rw [if_neg (by omega)])))); have e1 : flS (cuS (st, wt, br, 0, wu, fl) p c) p = (cuS (st, wt, br, 0, wu, fl) p c).1 := (by unfold flS; rw [← hv2, if_neg (by omega)]); rw [e0, e1]; exact hI2, hF02⟩
          · refine e_aload_n (pc' := 72) dX5_readCharacter_71 rfl rfl ?_
            refine e_getI (pc' := 75) (v := ((cuS (st, wt, br, 0, wu, fl) p c).1.2.2.2.2.2)) dX5_readCharacter_72 rfl f_5_34 h_8 rfl hI2.2.2.2.2.2.2.1 ?_
            refine e_iconst (pc' := 76) dX5_readCharacter_75 rfl ?_
            refine e_icmpI (pc' := 79) (t := 89) dX5_readCharacter_76 (by decide) rfl ⟨by omega, by omega⟩ ⟨by omega, by omega⟩ (fun (c12_6 : (((cuS (st, wt, br, 0, wu, fl) p c).1.2.2.2.2.2) : Int) ≠ (-1)) => ?_) (fun (c12_6 : ¬ ((((cuS (st, wt, br, 0, wu, fl) p c).1.2.2.2.2.2) : Int) ≠ (-1))) => ?_)
            · exact e_vret dX5_readCharacter_89 rfl ⟨rfl, Nat.le_refl _⟩ ⟨rfl, by have e0 : chS (st, wt, br, dg, wu, fl) p c = flS (cuS (st, wt, br, 0, wu, fl) p c) p := (by unfold chS d0S; dsimp only; (repeat (first | (rw [if_pos (by omega)]) | (rw [if_neg (by omega)])))); have e1 : flS (cuS (st, wt, br, 0, wu, fl) p c) p = (cuS (st, wt, br, 0, wu, fl) p c).1 := (by unfold flS; rw [← hv2, if_neg (by omega)]); rw [e0, e1]; exact hI2, hF02⟩
            · refine e_aload_n (pc' := 80) dX5_readCharacter_79 rfl rfl ?_
              refine e_bipush (pc' := 82) (z := 10) dX5_readCharacter_80 rfl (by decide) ?_
              refine e_iload_n (pc' := 83) dX5_readCharacter_82 rfl rfl ?_
              refine e_imul (pc' := 84) dX5_readCharacter_83 rfl ?_
              refine e_iconst (pc' := 85) dX5_readCharacter_84 rfl ?_
              refine e_iadd (pc' := 86) dX5_readCharacter_85 rfl ?_
              refine e_putI (pc' := 89) dX5_readCharacter_86 rfl f_5_34 h_8 rfl rfl rfl ?_
              exact e_vret dX5_readCharacter_89 rfl ⟨rfl, Nat.le_refl _⟩ ⟨rfl, by have e0 : chS (st, wt, br, dg, wu, fl) p c = flS (cuS (st, wt, br, 0, wu, fl) p c) p := (by unfold chS d0S; dsimp only; (repeat (first | (rw [if_pos (by omega)]) | (rw [if_neg (by omega)])))); have e1 : flS (cuS (st, wt, br, 0, wu, fl) p c) p = ((cuS (st, wt, br, 0, wu, fl) p c).1.1, (cuS (st, wt, br, 0, wu, fl) p c).1.2.1, (cuS (st, wt, br, 0, wu, fl) p c).1.2.2.1, (cuS (st, wt, br, 0, wu, fl) p c).1.2.2.2.1, (cuS (st, wt, br, 0, wu, fl) p c).1.2.2.2.2.1, 10 * p + 1) := (by unfold flS; rw [← hv2, if_pos (by omega)]); rw [e0, e1]; exact ⟨hI2.1, hI2.2.1, hI2.2.2.1, hI2.2.2.2.1, hI2.2.2.2.2.1, hI2.2.2.2.2.2.1, rfl, hI2.2.2.2.2.2.2.2.1, hI2.2.2.2.2.2.2.2.2⟩, fr_I hF02 (by decide)⟩
      · exact e_vret dX5_readCharacter_41 rfl ⟨rfl, Nat.le_refl _⟩ ⟨rfl, by unfold chS; rw [if_neg (by omega), if_pos (by omega)]; exact hI0, hF0⟩
    · refine e_aload_n (pc' := 20) dX5_readCharacter_19 rfl rfl ?_
      refine e_aload_n (pc' := 21) dX5_readCharacter_20 rfl rfl ?_
      refine e_iload_n (pc' := 22) dX5_readCharacter_21 rfl rfl ?_
      refine e_iload_n (pc' := 23) dX5_readCharacter_22 rfl rfl ?_
      refine e_bipush (pc' := 25) (z := 48) dX5_readCharacter_23 rfl (by decide) ?_
      refine e_isub (pc' := 26) dX5_readCharacter_25 rfl ?_
      refine e_cv3v (pc' := 29) dX5_readCharacter_26 rfl k_5_50 h_35 rfl (Nat.le_of_ble_eq_true rfl) rfl rfl ⟨rfl, rfl⟩ ⟨Nat.zero_le _, Nat.zero_le _⟩ (s_readDigit_8 n st wt br dg wu fl hI hk p (c - 48) hp ⟨by omega, by omega⟩) ?_
      rintro τ2 ⟨hI2, hF2⟩
      exact e_vret dX5_readCharacter_29 rfl ⟨rfl, Nat.le_refl _⟩ ⟨rfl, by unfold chS; rw [if_pos (by omega)]; exact hI2, hF2⟩

set_option maxHeartbeats 4000000 in
set_option maxRecDepth 100000 in
theorem l_read60_8 {X : AX} {d : Nat} {σ : SG} (nn : Nat) (hnn : nn ≤ 40) (hT : ∀ j, 0 ≤ j → j < 40 → chr7 ((σ.1 9) j)) (i : Int) (τ : SG) (hI : RsI τ 8 (nn : Int) (rdS (σ.1 9) nn)) (hF : Fr [35, 36, 8, 10] σ τ) : Ev X 0 0 (d + 5) mX5_read 60 [some (rv 35), some (rv 8), some (iv i)] [] τ (QV (fun σ' => RsI σ' 8 (nn : Int) (fnS (σ.1 9) nn) ∧ Fr [35, 36, 8, 10] σ σ')) := by
  have hk := rdS_ok hT nn hnn
  have hk3 := hk.2.2.1
  have hk5 := hk.2.2.2.2.1
  have hk6 := hk.2.2.2.2.2.1
  refine e_aload_n (pc' := 61) dX5_read_60 rfl rfl ?_
  refine e_getI (pc' := 64) (v := (rdS (σ.1 9) nn).2.2.2.2.2) dX5_read_61 rfl f_5_34 h_8 rfl hI.2.2.2.2.2.2.1 ?_
  refine e_iconst (pc' := 65) dX5_read_64 rfl ?_
  refine e_icmpI (pc' := 68) (t := 95) dX5_read_65 (by decide) rfl ⟨by omega, by omega⟩ ⟨by omega, by omega⟩ (fun (c2_1 : ((rdS (σ.1 9) nn).2.2.2.2.2 : Int) ≠ (-1)) => ?_) (fun (c2_1 : ¬ (((rdS (σ.1 9) nn).2.2.2.2.2 : Int) ≠ (-1))) => ?_)
  · refine e_aload_n (pc' := 96) dX5_read_95 rfl rfl ?_
    refine e_aload_n (pc' := 97) dX5_read_96 rfl rfl ?_
    refine e_iconst (pc' := 98) dX5_read_97 rfl ?_
    refine e_cv2v (pc' := 101) dX5_read_98 rfl k_5_44 h_35 rfl (Nat.le_of_ble_eq_true rfl) rfl rfl ⟨rfl, rfl⟩ ⟨Nat.zero_le _, Nat.zero_le _⟩ (s_release_8 (nn : Int) (rdS (σ.1 9) nn).2.2.1 (rdS (σ.1 9) nn).2.2.2.1 (rdS (σ.1 9) nn).2.2.2.2.1 (rdS (σ.1 9) nn).2.2.2.2.2 1 ⟨by decide, by decide⟩ (rdS (σ.1 9) nn).2.1 (rdS (σ.1 9) nn).1 _ hI hk) ?_
    rintro τ3 ⟨hI3, hF3⟩
    exact e_vret dX5_read_101 rfl ⟨rfl, Nat.le_refl _⟩ ⟨rfl, by have e : fnS (σ.1 9) nn = ((rlS 1 (rdS (σ.1 9) nn).2.1 (rdS (σ.1 9) nn).1).2, (rlS 1 (rdS (σ.1 9) nn).2.1 (rdS (σ.1 9) nn).1).1, (rdS (σ.1 9) nn).2.2.1, (rdS (σ.1 9) nn).2.2.2.1, (rdS (σ.1 9) nn).2.2.2.2.1, (rdS (σ.1 9) nn).2.2.2.2.2) := (by unfold fnS; (repeat (first | (rw [if_pos (by omega)]) | (rw [if_neg (by omega)])))); rw [e]; exact hI3, hF.tr hF3⟩
  · refine e_aload_n (pc' := 69) dX5_read_68 rfl rfl ?_
    refine e_getI (pc' := 72) (v := (rdS (σ.1 9) nn).2.2.2.2.1) dX5_read_69 rfl f_5_25 h_35 rfl hI.2.2.2.1 ?_
    refine e_ifI (pc' := 75) (t := 82) dX5_read_72 (by decide) rfl ⟨by omega, by omega⟩ (fun (c4_2 : ((rdS (σ.1 9) nn).2.2.2.2.1 : Int) ≠ 0) => ?_) (fun (c4_2 : ¬ (((rdS (σ.1 9) nn).2.2.2.2.1 : Int) ≠ 0)) => ?_)
    · refine e_aload_n (pc' := 83) dX5_read_82 rfl rfl ?_
      refine e_bipush (pc' := 85) (z := 10) dX5_read_83 rfl (by decide) ?_
      refine e_aload_n (pc' := 86) dX5_read_85 rfl rfl ?_
      refine e_getI (pc' := 89) (v := (nn : Int)) dX5_read_86 rfl f_5_37 h_8 rfl hI.2.2.2.2.2.2.2.2 ?_
      refine e_imul (pc' := 90) dX5_read_89 rfl ?_
      refine e_iconst (pc' := 91) dX5_read_90 rfl ?_
      refine e_iadd (pc' := 92) dX5_read_91 rfl ?_
      refine e_putI (pc' := 95) dX5_read_92 rfl f_5_34 h_8 rfl rfl rfl ?_
      have hI2 : RsI (upI τ 8 4 ((10 * (nn : Int)) + 1)) 8 (nn : Int) ((rdS (σ.1 9) nn).1, (rdS (σ.1 9) nn).2.1, (rdS (σ.1 9) nn).2.2.1, (rdS (σ.1 9) nn).2.2.2.1, (rdS (σ.1 9) nn).2.2.2.2.1, 10 * (nn : Int) + 1) := ⟨hI.1, hI.2.1, hI.2.2.1, hI.2.2.2.1, hI.2.2.2.2.1, hI.2.2.2.2.2.1, rfl, hI.2.2.2.2.2.2.2.1, hI.2.2.2.2.2.2.2.2⟩
      have hk2 : rsOK ((rdS (σ.1 9) nn).1, (rdS (σ.1 9) nn).2.1, (rdS (σ.1 9) nn).2.2.1, (rdS (σ.1 9) nn).2.2.2.1, (rdS (σ.1 9) nn).2.2.2.2.1, 10 * (nn : Int) + 1) := ⟨hk.1, hk.2.1, hk.2.2.1, hk.2.2.2.1, hk.2.2.2.2.1, ⟨by show -1000 ≤ 10 * (nn : Int) + 1; omega, by show 10 * (nn : Int) + 1 ≤ 1000; omega⟩, hk.2.2.2.2.2.2⟩
      have hF2 : Fr [35, 36, 8, 10] σ (upI τ 8 4 ((10 * (nn : Int)) + 1)) := fr_I hF (by decide)
      refine e_aload_n (pc' := 96) dX5_read_95 rfl rfl ?_
      refine e_aload_n (pc' := 97) dX5_read_96 rfl rfl ?_
      refine e_iconst (pc' := 98) dX5_read_97 rfl ?_
      refine e_cv2v (pc' := 101) dX5_read_98 rfl k_5_44 h_35 rfl (Nat.le_of_ble_eq_true rfl) rfl rfl ⟨rfl, rfl⟩ ⟨Nat.zero_le _, Nat.zero_le _⟩ (s_release_8 (nn : Int) (rdS (σ.1 9) nn).2.2.1 (rdS (σ.1 9) nn).2.2.2.1 (rdS (σ.1 9) nn).2.2.2.2.1 (10 * (nn : Int) + 1) 1 ⟨by decide, by decide⟩ (rdS (σ.1 9) nn).2.1 (rdS (σ.1 9) nn).1 _ hI2 hk2) ?_
      rintro τ3 ⟨hI3, hF3⟩
      exact e_vret dX5_read_101 rfl ⟨rfl, Nat.le_refl _⟩ ⟨rfl, by have e : fnS (σ.1 9) nn = ((rlS 1 (rdS (σ.1 9) nn).2.1 (rdS (σ.1 9) nn).1).2, (rlS 1 (rdS (σ.1 9) nn).2.1 (rdS (σ.1 9) nn).1).1, (rdS (σ.1 9) nn).2.2.1, (rdS (σ.1 9) nn).2.2.2.1, (rdS (σ.1 9) nn).2.2.2.2.1, (10 * (nn : Int) + 1)) := (by unfold fnS; (repeat (first | (rw [if_pos (by omega)]) | (rw [if_neg (by omega)])))); rw [e]; exact hI3, hF2.tr hF3⟩
    · refine e_aload_n (pc' := 76) dX5_read_75 rfl rfl ?_
      refine e_getI (pc' := 79) (v := (rdS (σ.1 9) nn).2.2.1) dX5_read_76 rfl f_5_19 h_35 rfl hI.2.1 ?_
      refine e_ifI (pc' := 82) (t := 95) dX5_read_79 (by decide) rfl ⟨by omega, by omega⟩ (fun (c6_3 : ((rdS (σ.1 9) nn).2.2.1 : Int) ≤ 0) => ?_) (fun (c6_3 : ¬ (((rdS (σ.1 9) nn).2.2.1 : Int) ≤ 0)) => ?_)
      · refine e_aload_n (pc' := 96) dX5_read_95 rfl rfl ?_
        refine e_aload_n (pc' := 97) dX5_read_96 rfl rfl ?_
        refine e_iconst (pc' := 98) dX5_read_97 rfl ?_
        refine e_cv2v (pc' := 101) dX5_read_98 rfl k_5_44 h_35 rfl (Nat.le_of_ble_eq_true rfl) rfl rfl ⟨rfl, rfl⟩ ⟨Nat.zero_le _, Nat.zero_le _⟩ (s_release_8 (nn : Int) (rdS (σ.1 9) nn).2.2.1 (rdS (σ.1 9) nn).2.2.2.1 (rdS (σ.1 9) nn).2.2.2.2.1 (rdS (σ.1 9) nn).2.2.2.2.2 1 ⟨by decide, by decide⟩ (rdS (σ.1 9) nn).2.1 (rdS (σ.1 9) nn).1 _ hI hk) ?_
        rintro τ3 ⟨hI3, hF3⟩
        exact e_vret dX5_read_101 rfl ⟨rfl, Nat.le_refl _⟩ ⟨rfl, by have e : fnS (σ.1 9) nn = ((rlS 1 (rdS (σ.1 9) nn).2.1 (rdS (σ.1 9) nn).1).2, (rlS 1 (rdS (σ.1 9) nn).2.1 (rdS (σ.1 9) nn).1).1, (rdS (σ.1 9) nn).2.2.1, (rdS (σ.1 9) nn).2.2.2.1, (rdS (σ.1 9) nn).2.2.2.2.1, (rdS (σ.1 9) nn).2.2.2.2.2) := (by unfold fnS; (repeat (first | (rw [if_pos (by omega)]) | (rw [if_neg (by omega)])))); rw [e]; exact hI3, hF.tr hF3⟩
      · refine e_aload_n (pc' := 83) dX5_read_82 rfl rfl ?_
        refine e_bipush (pc' := 85) (z := 10) dX5_read_83 rfl (by decide) ?_
        refine e_aload_n (pc' := 86) dX5_read_85 rfl rfl ?_
        refine e_getI (pc' := 89) (v := (nn : Int)) dX5_read_86 rfl f_5_37 h_8 rfl hI.2.2.2.2.2.2.2.2 ?_
        refine e_imul (pc' := 90) dX5_read_89 rfl ?_
        refine e_iconst (pc' := 91) dX5_read_90 rfl ?_
        refine e_iadd (pc' := 92) dX5_read_91 rfl ?_
        refine e_putI (pc' := 95) dX5_read_92 rfl f_5_34 h_8 rfl rfl rfl ?_
        have hI2 : RsI (upI τ 8 4 ((10 * (nn : Int)) + 1)) 8 (nn : Int) ((rdS (σ.1 9) nn).1, (rdS (σ.1 9) nn).2.1, (rdS (σ.1 9) nn).2.2.1, (rdS (σ.1 9) nn).2.2.2.1, (rdS (σ.1 9) nn).2.2.2.2.1, 10 * (nn : Int) + 1) := ⟨hI.1, hI.2.1, hI.2.2.1, hI.2.2.2.1, hI.2.2.2.2.1, hI.2.2.2.2.2.1, rfl, hI.2.2.2.2.2.2.2.1, hI.2.2.2.2.2.2.2.2⟩
        have hk2 : rsOK ((rdS (σ.1 9) nn).1, (rdS (σ.1 9) nn).2.1, (rdS (σ.1 9) nn).2.2.1, (rdS (σ.1 9) nn).2.2.2.1, (rdS (σ.1 9) nn).2.2.2.2.1, 10 * (nn : Int) + 1) := ⟨hk.1, hk.2.1, hk.2.2.1, hk.2.2.2.1, hk.2.2.2.2.1, ⟨by show -1000 ≤ 10 * (nn : Int) + 1; omega, by show 10 * (nn : Int) + 1 ≤ 1000; omega⟩, hk.2.2.2.2.2.2⟩
        have hF2 : Fr [35, 36, 8, 10] σ (upI τ 8 4 ((10 * (nn : Int)) + 1)) := fr_I hF (by decide)
        refine e_aload_n (pc' := 96) dX5_read_95 rfl rfl ?_
        refine e_aload_n (pc' := 97) dX5_read_96 rfl rfl ?_
        refine e_iconst (pc' := 98) dX5_read_97 rfl ?_
        refine e_cv2v (pc' := 101) dX5_read_98 rfl k_5_44 h_35 rfl (Nat.le_of_ble_eq_true rfl) rfl rfl ⟨rfl, rfl⟩ ⟨Nat.zero_le _, Nat.zero_le _⟩ (s_release_8 (nn : Int) (rdS (σ.1 9) nn).2.2.1 (rdS (σ.1 9) nn).2.2.2.1 (rdS (σ.1 9) nn).2.2.2.2.1 (10 * (nn : Int) + 1) 1 ⟨by decide, by decide⟩ (rdS (σ.1 9) nn).2.1 (rdS (σ.1 9) nn).1 _ hI2 hk2) ?_
        rintro τ3 ⟨hI3, hF3⟩
        exact e_vret dX5_read_101 rfl ⟨rfl, Nat.le_refl _⟩ ⟨rfl, by have e : fnS (σ.1 9) nn = ((rlS 1 (rdS (σ.1 9) nn).2.1 (rdS (σ.1 9) nn).1).2, (rlS 1 (rdS (σ.1 9) nn).2.1 (rdS (σ.1 9) nn).1).1, (rdS (σ.1 9) nn).2.2.1, (rdS (σ.1 9) nn).2.2.2.1, (rdS (σ.1 9) nn).2.2.2.2.1, (10 * (nn : Int) + 1)) := (by unfold fnS; (repeat (first | (rw [if_pos (by omega)]) | (rw [if_neg (by omega)])))); rw [e]; exact hI3, hF2.tr hF3⟩

set_option maxHeartbeats 4000000 in
set_option maxRecDepth 100000 in
theorem l_read_8 {X : AX} {d : Nat} {σ : SG} (nn : Nat) (hnn : nn ≤ 40) (hT : ∀ j, 0 ≤ j → j < 40 → chr7 ((σ.1 9) j)) : ∀ (k m : Nat) (i : Int) (τ : SG), i = (m : Int) → m ≤ nn → nn - m < k → RsI τ 8 (nn : Int) (rdS (σ.1 9) m) → Fr [35, 36, 8, 10] σ τ → Ev X 0 0 (d + 5) mX5_read 32 [some (rv 35), some (rv 8), some (iv i)] [] τ (QV (fun σ' => RsI σ' 8 (nn : Int) (fnS (σ.1 9) nn) ∧ Fr [35, 36, 8, 10] σ σ')) := by
  intro k
  induction k with
  | zero => intros; omega
  | succ k ih =>
  intro m i τ hi0 him hik hI hF
  have hk := rdS_ok hT m (by omega)
  have hk6 := hk.2.2.2.2.2.1
  refine e_iload_n (pc' := 33) dX5_read_32 rfl rfl ?_
  refine e_aload_n (pc' := 34) dX5_read_33 rfl rfl ?_
  refine e_getI (pc' := 37) (v := (nn : Int)) dX5_read_34 rfl f_5_37 h_8 rfl hI.2.2.2.2.2.2.2.2 ?_
  refine e_icmpI (pc' := 40) (t := 60) dX5_read_37 (by decide) rfl ⟨by omega, by omega⟩ ⟨by omega, by omega⟩ (fun (c2_1 : (nn : Int) ≤ (i : Int)) => ?_) (fun (c2_1 : ¬ ((nn : Int) ≤ (i : Int))) => ?_)
  · first
      | (have e : (rdS (σ.1 9) nn) = (rdS (σ.1 9) m) := rdS_stop (by assumption) nn (by omega)
         exact l_read60_8 nn hnn hT i τ (by rw [e]; exact hI) hF)
      | (have e : m = nn := by omega
         subst e
         exact l_read60_8 m hnn hT i τ hI hF)
  · refine e_aload_n (pc' := 41) dX5_read_40 rfl rfl ?_
    refine e_getI (pc' := 44) (v := (rdS (σ.1 9) m).2.2.2.2.2) dX5_read_41 rfl f_5_34 h_8 rfl hI.2.2.2.2.2.2.1 ?_
    refine e_iconst (pc' := 45) dX5_read_44 rfl ?_
    refine e_icmpI (pc' := 48) (t := 60) dX5_read_45 (by decide) rfl ⟨by omega, by omega⟩ ⟨by omega, by omega⟩ (fun (c4_2 : ((rdS (σ.1 9) m).2.2.2.2.2 : Int) ≠ (-1)) => ?_) (fun (c4_2 : ¬ (((rdS (σ.1 9) m).2.2.2.2.2 : Int) ≠ (-1))) => ?_)
    · first
        | (have e : (rdS (σ.1 9) nn) = (rdS (σ.1 9) m) := rdS_stop (by assumption) nn (by omega)
           exact l_read60_8 nn hnn hT i τ (by rw [e]; exact hI) hF)
        | (have e : m = nn := by omega
           subst e
           exact l_read60_8 m hnn hT i τ hI hF)
    · refine e_aload_n (pc' := 49) dX5_read_48 rfl rfl ?_
      refine e_aload_n (pc' := 50) dX5_read_49 rfl rfl ?_
      refine e_iload_n (pc' := 51) dX5_read_50 rfl rfl ?_
      refine e_cv2v (pc' := 54) dX5_read_51 rfl k_5_40 h_35 rfl (Nat.le_of_ble_eq_true rfl) rfl rfl ⟨rfl, rfl⟩ ⟨Nat.zero_le _, Nat.zero_le _⟩ (s_readCharacter_8 (nn : Int) (rdS (σ.1 9) m).1 (rdS (σ.1 9) m).2.1 (rdS (σ.1 9) m).2.2.1 (rdS (σ.1 9) m).2.2.2.1 (rdS (σ.1 9) m).2.2.2.2.1 (rdS (σ.1 9) m).2.2.2.2.2 hI hk i ((σ.1 9) i) ⟨by omega, by omega⟩ (congrFun (hF 9 (by decide)).1 i) (hT i (by omega) (by omega))) ?_
      rintro τ2 ⟨hI2, hF2⟩
      refine e_iinc (pc' := 57) (L' := [some (rv 35), some (rv 8), some (iv (i + 1))]) dX5_read_54 rfl rfl (by decide) rfl ?_
      refine e_goto (pc' := 32) dX5_read_57 (by decide) ?_
      refine ih (m + 1) (i + 1) τ2 (by omega) (by omega) (by omega) ?_ (hF.tr hF2)
      rw [rdS_s hi0 (Classical.byContradiction (by assumption))]
      exact hI2

set_option maxHeartbeats 4000000 in
set_option maxRecDepth 100000 in
theorem s_read_8 {X : AX} {d : Nat} {σ : SG} (nn : Nat) (hnn : nn ≤ 40) (hT : ∀ j, 0 ≤ j → j < 40 → chr7 ((σ.1 9) j)) (hn : σ.1 8 2 = (nn : Int)) : Ev X 0 0 (d + 5) mX5_read 0 [some (rv 35), some (rv 8), none] [] σ (QV (fun σ' => RsI σ' 8 (nn : Int) (fnS (σ.1 9) nn) ∧ Fr [35, 36, 8, 10] σ σ')) := by
  refine e_aload_n (pc' := 1) dX5_read_0 rfl rfl ?_
  refine e_iconst (pc' := 2) dX5_read_1 rfl ?_
  refine e_putI (pc' := 5) dX5_read_2 rfl f_5_15 h_35 rfl rfl rfl ?_
  refine e_aload_n (pc' := 6) dX5_read_5 rfl rfl ?_
  refine e_iconst (pc' := 7) dX5_read_6 rfl ?_
  refine e_putI (pc' := 10) dX5_read_7 rfl f_5_19 h_35 rfl rfl rfl ?_
  refine e_aload_n (pc' := 11) dX5_read_10 rfl rfl ?_
  refine e_iconst (pc' := 12) dX5_read_11 rfl ?_
  refine e_putI (pc' := 15) dX5_read_12 rfl f_5_22 h_35 rfl rfl rfl ?_
  refine e_aload_n (pc' := 16) dX5_read_15 rfl rfl ?_
  refine e_iconst (pc' := 17) dX5_read_16 rfl ?_
  refine e_putI (pc' := 20) dX5_read_17 rfl f_5_25 h_35 rfl rfl rfl ?_
  refine e_aload_n (pc' := 21) dX5_read_20 rfl rfl ?_
  refine e_iconst (pc' := 22) dX5_read_21 rfl ?_
  refine e_putI (pc' := 25) dX5_read_22 rfl f_5_29 h_8 rfl rfl rfl ?_
  refine e_aload_n (pc' := 26) dX5_read_25 rfl rfl ?_
  refine e_iconst (pc' := 27) dX5_read_26 rfl ?_
  refine e_putI (pc' := 30) dX5_read_27 rfl f_5_34 h_8 rfl rfl rfl ?_
  refine e_iconst (pc' := 31) dX5_read_30 rfl ?_
  refine e_istore_n (pc' := 32) (L' := [some (rv 35), some (rv 8), some (iv 0)]) dX5_read_31 rfl (by decide) rfl ?_
  exact l_read_8 nn hnn hT (nn + 1) 0 0 _ rfl (by omega) (by omega) ⟨rfl, rfl, rfl, rfl, trivial, rfl, rfl, trivial, hn⟩ (by repeat (first | exact Fr.rf | assumption | (refine fr_I ?_ (by decide)) | (refine fr_J ?_ (by decide)) | (refine fr_C ?_ (by decide))))

set_option maxHeartbeats 4000000 in
set_option maxRecDepth 100000 in
theorem s_readCharacter_11 {X : AX} {d : Nat} {σ : SG} (n : Int) (st wt : List Int) (br dg wu fl : Int) (hI : RsI σ 11 n (st, wt, br, dg, wu, fl)) (hk : rsOK (st, wt, br, dg, wu, fl)) (p c : Int) (hp : 0 ≤ p ∧ p < 40) (hc : σ.1 12 p = c) (hcc : chr7 c) : Ev X 0 0 (d + 4) mX5_readCharacter 0 [some (rv 35), some (rv 11), some (iv p), none, none] [] σ (QV (fun σ' => RsI σ' 11 n (chS (st, wt, br, dg, wu, fl) p c) ∧ Fr [35, 36, 11, 13] σ σ')) := by
  obtain ⟨hk1, hk2, hk3, hk4, hk5, hk6, hk7⟩ := id hk
  simp only at hk1 hk2 hk3 hk4 hk5 hk6 hk7
  obtain ⟨hc1, hc2⟩ := id hcc
  refine e_aload_n (pc' := 1) dX5_readCharacter_0 rfl rfl ?_
  refine e_getR (pc' := 4) dX5_readCharacter_1 rfl f_5_47 h_11 rfl ?_
  refine e_iload_n (pc' := 5) dX5_readCharacter_4 rfl rfl ?_
  refine e_iald (pc' := 6) (v := c) dX5_readCharacter_5 rfl h_12 (by decide) (by omega) (by omega) hc ?_
  refine e_istore_n (pc' := 7) (L' := [some (rv 35), some (rv 11), some (iv p), some (iv c), none]) dX5_readCharacter_6 rfl (by decide) rfl ?_
  refine e_iload_n (pc' := 8) dX5_readCharacter_7 rfl rfl ?_
  refine e_bipush (pc' := 10) (z := 48) dX5_readCharacter_8 rfl (by decide) ?_
  refine e_icmpI (pc' := 13) (t := 30) dX5_readCharacter_10 (by decide) rfl ⟨by omega, by omega⟩ ⟨by omega, by omega⟩ (fun (c2_1 : (c : Int) < 48) => ?_) (fun (c2_1 : ¬ ((c : Int) < 48)) => ?_)
  · refine e_aload_n (pc' := 31) dX5_readCharacter_30 rfl rfl ?_
    refine e_iconst (pc' := 32) dX5_readCharacter_31 rfl ?_
    refine e_putI (pc' := 35) dX5_readCharacter_32 rfl f_5_22 h_35 rfl rfl rfl ?_
    have hI0 : RsI (upI σ 35 3 0) 11 n (st, wt, br, 0, wu, fl) := ⟨hI.1, hI.2.1, rfl, hI.2.2.2.1, hI.2.2.2.2.1, hI.2.2.2.2.2.1, hI.2.2.2.2.2.2.1, hI.2.2.2.2.2.2.2.1, hI.2.2.2.2.2.2.2.2⟩
    have hk0 : rsOK (st, wt, br, 0, wu, fl) := d0S_ok hk
    have hF0 : Fr [35, 36, 11, 13] σ (upI σ 35 3 0) := fr_I Fr.rf (by decide)
    refine e_iload_n (pc' := 36) dX5_readCharacter_35 rfl rfl ?_
    refine e_bipush (pc' := 38) (z := 32) dX5_readCharacter_36 rfl (by decide) ?_
    refine e_icmpI (pc' := 41) (t := 42) dX5_readCharacter_38 (by decide) rfl ⟨by omega, by omega⟩ ⟨by omega, by omega⟩ (fun (c4_2 : (c : Int) ≠ 32) => ?_) (fun (c4_2 : ¬ ((c : Int) ≠ 32)) => ?_)
    · refine e_aload_n (pc' := 43) dX5_readCharacter_42 rfl rfl ?_
      refine e_getI (pc' := 46) (v := wu) dX5_readCharacter_43 rfl f_5_25 h_35 rfl hI.2.2.2.1 ?_
      refine e_ifI (pc' := 49) (t := 58) dX5_readCharacter_46 (by decide) rfl ⟨by omega, by omega⟩ (fun (c6_3 : (wu : Int) = 0) => ?_) (fun (c6_3 : ¬ ((wu : Int) = 0)) => ?_)
      · refine e_aload_n (pc' := 59) dX5_readCharacter_58 rfl rfl ?_
        refine e_aload_n (pc' := 60) dX5_readCharacter_59 rfl rfl ?_
        refine e_iload_n (pc' := 61) dX5_readCharacter_60 rfl rfl ?_
        refine e_cv2i (pc' := 64) dX5_readCharacter_61 rfl k_5_58 h_35 rfl (Nat.le_of_ble_eq_true rfl) rfl rfl ⟨rfl, rfl⟩ ⟨Nat.zero_le _, Nat.zero_le _⟩ (s_readBehindUnit_11 n st wt br 0 wu fl hI0 hk0 c hcc) ?_
        rintro v2 τ2 ⟨hv2, hI2, hF2⟩
        have hok := buS_ok hk0 hcc
        have hv01 : v2 = 0 ∨ v2 = 1 := by rw [hv2]; exact hok.2
        have hflr := hok.1.2.2.2.2.2.1
        have hF02 := hF0.tr hF2
        refine e_istore (pc' := 66) (L' := [some (rv 35), some (rv 11), some (iv p), some (iv c), some (iv v2)]) dX5_readCharacter_64 rfl (by decide) rfl ?_
        refine e_iload (pc' := 68) dX5_readCharacter_66 rfl rfl ?_
        refine e_ifI (pc' := 71) (t := 89) dX5_readCharacter_68 (by decide) rfl ⟨by omega, by omega⟩ (fun (c8_4 : (v2 : Int) ≠ 0) => ?_) (fun (c8_4 : ¬ ((v2 : Int) ≠ 0)) => ?_)
        · exact e_vret dX5_readCharacter_89 rfl ⟨rfl, Nat.le_refl _⟩ ⟨rfl, by have e0 : chS (st, wt, br, dg, wu, fl) p c = flS (buS (st, wt, br, 0, wu, fl) c) p := (by unfold chS d0S; dsimp only; (repeat (first | (rw [if_pos (by omega)]) | (rw [if_neg (by omega)])))); have e1 : flS (buS (st, wt, br, 0, wu, fl) c) p = (buS (st, wt, br, 0, wu, fl) c).1 := (by unfold flS; rw [← hv2, if_neg (by omega)]); rw [e0, e1]; exact hI2, hF02⟩
        · refine e_aload_n (pc' := 72) dX5_readCharacter_71 rfl rfl ?_
          refine e_getI (pc' := 75) (v := ((buS (st, wt, br, 0, wu, fl) c).1.2.2.2.2.2)) dX5_readCharacter_72 rfl f_5_34 h_11 rfl hI2.2.2.2.2.2.2.1 ?_
          refine e_iconst (pc' := 76) dX5_readCharacter_75 rfl ?_
          refine e_icmpI (pc' := 79) (t := 89) dX5_readCharacter_76 (by decide) rfl ⟨by omega, by omega⟩ ⟨by omega, by omega⟩ (fun (c10_5 : (((buS (st, wt, br, 0, wu, fl) c).1.2.2.2.2.2) : Int) ≠ (-1)) => ?_) (fun (c10_5 : ¬ ((((buS (st, wt, br, 0, wu, fl) c).1.2.2.2.2.2) : Int) ≠ (-1))) => ?_)
          · exact e_vret dX5_readCharacter_89 rfl ⟨rfl, Nat.le_refl _⟩ ⟨rfl, by have e0 : chS (st, wt, br, dg, wu, fl) p c = flS (buS (st, wt, br, 0, wu, fl) c) p := (by unfold chS d0S; dsimp only; (repeat (first | (rw [if_pos (by omega)]) | (rw [if_neg (by omega)])))); have e1 : flS (buS (st, wt, br, 0, wu, fl) c) p = (buS (st, wt, br, 0, wu, fl) c).1 := (by unfold flS; rw [← hv2, if_neg (by omega)]); rw [e0, e1]; exact hI2, hF02⟩
          · refine e_aload_n (pc' := 80) dX5_readCharacter_79 rfl rfl ?_
            refine e_bipush (pc' := 82) (z := 10) dX5_readCharacter_80 rfl (by decide) ?_
            refine e_iload_n (pc' := 83) dX5_readCharacter_82 rfl rfl ?_
            refine e_imul (pc' := 84) dX5_readCharacter_83 rfl ?_
            refine e_iconst (pc' := 85) dX5_readCharacter_84 rfl ?_
            refine e_iadd (pc' := 86) dX5_readCharacter_85 rfl ?_
            refine e_putI (pc' := 89) dX5_readCharacter_86 rfl f_5_34 h_11 rfl rfl rfl ?_
            exact e_vret dX5_readCharacter_89 rfl ⟨rfl, Nat.le_refl _⟩ ⟨rfl, by have e0 : chS (st, wt, br, dg, wu, fl) p c = flS (buS (st, wt, br, 0, wu, fl) c) p := (by unfold chS d0S; dsimp only; (repeat (first | (rw [if_pos (by omega)]) | (rw [if_neg (by omega)])))); have e1 : flS (buS (st, wt, br, 0, wu, fl) c) p = ((buS (st, wt, br, 0, wu, fl) c).1.1, (buS (st, wt, br, 0, wu, fl) c).1.2.1, (buS (st, wt, br, 0, wu, fl) c).1.2.2.1, (buS (st, wt, br, 0, wu, fl) c).1.2.2.2.1, (buS (st, wt, br, 0, wu, fl) c).1.2.2.2.2.1, 10 * p + 1) := (by unfold flS; rw [← hv2, if_pos (by omega)]); rw [e0, e1]; exact ⟨hI2.1, hI2.2.1, hI2.2.2.1, hI2.2.2.2.1, hI2.2.2.2.2.1, hI2.2.2.2.2.2.1, rfl, hI2.2.2.2.2.2.2.2.1, hI2.2.2.2.2.2.2.2.2⟩, fr_I hF02 (by decide)⟩
      · refine e_aload_n (pc' := 50) dX5_readCharacter_49 rfl rfl ?_
        refine e_aload_n (pc' := 51) dX5_readCharacter_50 rfl rfl ?_
        refine e_iload_n (pc' := 52) dX5_readCharacter_51 rfl rfl ?_
        refine e_cv2i (pc' := 55) dX5_readCharacter_52 rfl k_5_54 h_35 rfl (Nat.le_of_ble_eq_true rfl) rfl rfl ⟨rfl, rfl⟩ ⟨Nat.zero_le _, Nat.zero_le _⟩ (s_readUnit_11 n st wt br 0 wu fl hI0 hk0 p c hp hc hcc) ?_
        rintro v2 τ2 ⟨hv2, hI2, hF2⟩
        have hok := cuS_ok hk0 hp hcc
        have hv01 : v2 = 0 ∨ v2 = 1 := by rw [hv2]; exact hok.2
        have hflr := hok.1.2.2.2.2.2.1
        have hF02 := hF0.tr hF2
        refine e_goto (pc' := 64) dX5_readCharacter_55 (by decide) ?_
        refine e_istore (pc' := 66) (L' := [some (rv 35), some (rv 11), some (iv p), some (iv c), some (iv v2)]) dX5_readCharacter_64 rfl (by decide) rfl ?_
        refine e_iload (pc' := 68) dX5_readCharacter_66 rfl rfl ?_
        refine e_ifI (pc' := 71) (t := 89) dX5_readCharacter_68 (by decide) rfl ⟨by omega, by omega⟩ (fun (c8_4 : (v2 : Int) ≠ 0) => ?_) (fun (c8_4 : ¬ ((v2 : Int) ≠ 0)) => ?_)
        · exact e_vret dX5_readCharacter_89 rfl ⟨rfl, Nat.le_refl _⟩ ⟨rfl, by have e0 : chS (st, wt, br, dg, wu, fl) p c = flS (cuS (st, wt, br, 0, wu, fl) p c) p := (by unfold chS d0S; dsimp only; (repeat (first | (rw [if_pos (by omega)]) | (rw [if_neg (by omega)])))); have e1 : flS (cuS (st, wt, br, 0, wu, fl) p c) p = (cuS (st, wt, br, 0, wu, fl) p c).1 := (by unfold flS; rw [← hv2, if_neg (by omega)]); rw [e0, e1]; exact hI2, hF02⟩
        · refine e_aload_n (pc' := 72) dX5_readCharacter_71 rfl rfl ?_
          refine e_getI (pc' := 75) (v := ((cuS (st, wt, br, 0, wu, fl) p c).1.2.2.2.2.2)) dX5_readCharacter_72 rfl f_5_34 h_11 rfl hI2.2.2.2.2.2.2.1 ?_
          refine e_iconst (pc' := 76) dX5_readCharacter_75 rfl ?_
          refine e_icmpI (pc' := 79) (t := 89) dX5_readCharacter_76 (by decide) rfl ⟨by omega, by omega⟩ ⟨by omega, by omega⟩ (fun (c10_5 : (((cuS (st, wt, br, 0, wu, fl) p c).1.2.2.2.2.2) : Int) ≠ (-1)) => ?_) (fun (c10_5 : ¬ ((((cuS (st, wt, br, 0, wu, fl) p c).1.2.2.2.2.2) : Int) ≠ (-1))) => ?_)
          · exact e_vret dX5_readCharacter_89 rfl ⟨rfl, Nat.le_refl _⟩ ⟨rfl, by have e0 : chS (st, wt, br, dg, wu, fl) p c = flS (cuS (st, wt, br, 0, wu, fl) p c) p := (by unfold chS d0S; dsimp only; (repeat (first | (rw [if_pos (by omega)]) | (rw [if_neg (by omega)])))); have e1 : flS (cuS (st, wt, br, 0, wu, fl) p c) p = (cuS (st, wt, br, 0, wu, fl) p c).1 := (by unfold flS; rw [← hv2, if_neg (by omega)]); rw [e0, e1]; exact hI2, hF02⟩
          · refine e_aload_n (pc' := 80) dX5_readCharacter_79 rfl rfl ?_
            refine e_bipush (pc' := 82) (z := 10) dX5_readCharacter_80 rfl (by decide) ?_
            refine e_iload_n (pc' := 83) dX5_readCharacter_82 rfl rfl ?_
            refine e_imul (pc' := 84) dX5_readCharacter_83 rfl ?_
            refine e_iconst (pc' := 85) dX5_readCharacter_84 rfl ?_
            refine e_iadd (pc' := 86) dX5_readCharacter_85 rfl ?_
            refine e_putI (pc' := 89) dX5_readCharacter_86 rfl f_5_34 h_11 rfl rfl rfl ?_
            exact e_vret dX5_readCharacter_89 rfl ⟨rfl, Nat.le_refl _⟩ ⟨rfl, by have e0 : chS (st, wt, br, dg, wu, fl) p c = flS (cuS (st, wt, br, 0, wu, fl) p c) p := (by unfold chS d0S; dsimp only; (repeat (first | (rw [if_pos (by omega)]) | (rw [if_neg (by omega)])))); have e1 : flS (cuS (st, wt, br, 0, wu, fl) p c) p = ((cuS (st, wt, br, 0, wu, fl) p c).1.1, (cuS (st, wt, br, 0, wu, fl) p c).1.2.1, (cuS (st, wt, br, 0, wu, fl) p c).1.2.2.1, (cuS (st, wt, br, 0, wu, fl) p c).1.2.2.2.1, (cuS (st, wt, br, 0, wu, fl) p c).1.2.2.2.2.1, 10 * p + 1) := (by unfold flS; rw [← hv2, if_pos (by omega)]); rw [e0, e1]; exact ⟨hI2.1, hI2.2.1, hI2.2.2.1, hI2.2.2.2.1, hI2.2.2.2.2.1, hI2.2.2.2.2.2.1, rfl, hI2.2.2.2.2.2.2.2.1, hI2.2.2.2.2.2.2.2.2⟩, fr_I hF02 (by decide)⟩
    · exact e_vret dX5_readCharacter_41 rfl ⟨rfl, Nat.le_refl _⟩ ⟨rfl, by unfold chS; rw [if_neg (by omega), if_pos (by omega)]; exact hI0, hF0⟩
  · refine e_iload_n (pc' := 14) dX5_readCharacter_13 rfl rfl ?_
    refine e_bipush (pc' := 16) (z := 57) dX5_readCharacter_14 rfl (by decide) ?_
    refine e_icmpI (pc' := 19) (t := 30) dX5_readCharacter_16 (by decide) rfl ⟨by omega, by omega⟩ ⟨by omega, by omega⟩ (fun (c4_2 : 57 < (c : Int)) => ?_) (fun (c4_2 : ¬ (57 < (c : Int))) => ?_)
    · refine e_aload_n (pc' := 31) dX5_readCharacter_30 rfl rfl ?_
      refine e_iconst (pc' := 32) dX5_readCharacter_31 rfl ?_
      refine e_putI (pc' := 35) dX5_readCharacter_32 rfl f_5_22 h_35 rfl rfl rfl ?_
      have hI0 : RsI (upI σ 35 3 0) 11 n (st, wt, br, 0, wu, fl) := ⟨hI.1, hI.2.1, rfl, hI.2.2.2.1, hI.2.2.2.2.1, hI.2.2.2.2.2.1, hI.2.2.2.2.2.2.1, hI.2.2.2.2.2.2.2.1, hI.2.2.2.2.2.2.2.2⟩
      have hk0 : rsOK (st, wt, br, 0, wu, fl) := d0S_ok hk
      have hF0 : Fr [35, 36, 11, 13] σ (upI σ 35 3 0) := fr_I Fr.rf (by decide)
      refine e_iload_n (pc' := 36) dX5_readCharacter_35 rfl rfl ?_
      refine e_bipush (pc' := 38) (z := 32) dX5_readCharacter_36 rfl (by decide) ?_
      refine e_icmpI (pc' := 41) (t := 42) dX5_readCharacter_38 (by decide) rfl ⟨by omega, by omega⟩ ⟨by omega, by omega⟩ (fun (c6_3 : (c : Int) ≠ 32) => ?_) (fun (c6_3 : ¬ ((c : Int) ≠ 32)) => ?_)
      · refine e_aload_n (pc' := 43) dX5_readCharacter_42 rfl rfl ?_
        refine e_getI (pc' := 46) (v := wu) dX5_readCharacter_43 rfl f_5_25 h_35 rfl hI.2.2.2.1 ?_
        refine e_ifI (pc' := 49) (t := 58) dX5_readCharacter_46 (by decide) rfl ⟨by omega, by omega⟩ (fun (c8_4 : (wu : Int) = 0) => ?_) (fun (c8_4 : ¬ ((wu : Int) = 0)) => ?_)
        · refine e_aload_n (pc' := 59) dX5_readCharacter_58 rfl rfl ?_
          refine e_aload_n (pc' := 60) dX5_readCharacter_59 rfl rfl ?_
          refine e_iload_n (pc' := 61) dX5_readCharacter_60 rfl rfl ?_
          refine e_cv2i (pc' := 64) dX5_readCharacter_61 rfl k_5_58 h_35 rfl (Nat.le_of_ble_eq_true rfl) rfl rfl ⟨rfl, rfl⟩ ⟨Nat.zero_le _, Nat.zero_le _⟩ (s_readBehindUnit_11 n st wt br 0 wu fl hI0 hk0 c hcc) ?_
          rintro v2 τ2 ⟨hv2, hI2, hF2⟩
          have hok := buS_ok hk0 hcc
          have hv01 : v2 = 0 ∨ v2 = 1 := by rw [hv2]; exact hok.2
          have hflr := hok.1.2.2.2.2.2.1
          have hF02 := hF0.tr hF2
          refine e_istore (pc' := 66) (L' := [some (rv 35), some (rv 11), some (iv p), some (iv c), some (iv v2)]) dX5_readCharacter_64 rfl (by decide) rfl ?_
          refine e_iload (pc' := 68) dX5_readCharacter_66 rfl rfl ?_
          refine e_ifI (pc' := 71) (t := 89) dX5_readCharacter_68 (by decide) rfl ⟨by omega, by omega⟩ (fun (c10_5 : (v2 : Int) ≠ 0) => ?_) (fun (c10_5 : ¬ ((v2 : Int) ≠ 0)) => ?_)
          · exact e_vret dX5_readCharacter_89 rfl ⟨rfl, Nat.le_refl _⟩ ⟨rfl, by have e0 : chS (st, wt, br, dg, wu, fl) p c = flS (buS (st, wt, br, 0, wu, fl) c) p := (by unfold chS d0S; dsimp only; (repeat (first | (rw [if_pos (by omega)]) | (rw [if_neg (by omega)])))); have e1 : flS (buS (st, wt, br, 0, wu, fl) c) p = (buS (st, wt, br, 0, wu, fl) c).1 := (by unfold flS; rw [← hv2, if_neg (by omega)]); rw [e0, e1]; exact hI2, hF02⟩
          · refine e_aload_n (pc' := 72) dX5_readCharacter_71 rfl rfl ?_
            refine e_getI (pc' := 75) (v := ((buS (st, wt, br, 0, wu, fl) c).1.2.2.2.2.2)) dX5_readCharacter_72 rfl f_5_34 h_11 rfl hI2.2.2.2.2.2.2.1 ?_
            refine e_iconst (pc' := 76) dX5_readCharacter_75 rfl ?_
            refine e_icmpI (pc' := 79) (t := 89) dX5_readCharacter_76 (by decide) rfl ⟨by omega, by omega⟩ ⟨by omega, by omega⟩ (fun (c12_6 : (((buS (st, wt, br, 0, wu, fl) c).1.2.2.2.2.2) : Int) ≠ (-1)) => ?_) (fun (c12_6 : ¬ ((((buS (st, wt, br, 0, wu, fl) c).1.2.2.2.2.2) : Int) ≠ (-1))) => ?_)
            · exact e_vret dX5_readCharacter_89 rfl ⟨rfl, Nat.le_refl _⟩ ⟨rfl, by have e0 : chS (st, wt, br, dg, wu, fl) p c = flS (buS (st, wt, br, 0, wu, fl) c) p := (by unfold chS d0S; dsimp only; (repeat (first | (rw [if_pos (by omega)]) | (rw [if_neg (by omega)])))); have e1 : flS (buS (st, wt, br, 0, wu, fl) c) p = (buS (st, wt, br, 0, wu, fl) c).1 := (by unfold flS; rw [← hv2, if_neg (by omega)]); rw [e0, e1]; exact hI2, hF02⟩
            · refine e_aload_n (pc' := 80) dX5_readCharacter_79 rfl rfl ?_
              refine e_bipush (pc' := 82) (z := 10) dX5_readCharacter_80 rfl (by decide) ?_
              refine e_iload_n (pc' := 83) dX5_readCharacter_82 rfl rfl ?_
              refine e_imul (pc' := 84) dX5_readCharacter_83 rfl ?_
              refine e_iconst (pc' := 85) dX5_readCharacter_84 rfl ?_
              refine e_iadd (pc' := 86) dX5_readCharacter_85 rfl ?_
              refine e_putI (pc' := 89) dX5_readCharacter_86 rfl f_5_34 h_11 rfl rfl rfl ?_
              exact e_vret dX5_readCharacter_89 rfl ⟨rfl, Nat.le_refl _⟩ ⟨rfl, by have e0 : chS (st, wt, br, dg, wu, fl) p c = flS (buS (st, wt, br, 0, wu, fl) c) p := (by unfold chS d0S; dsimp only; (repeat (first | (rw [if_pos (by omega)]) | (rw [if_neg (by omega)])))); have e1 : flS (buS (st, wt, br, 0, wu, fl) c) p = ((buS (st, wt, br, 0, wu, fl) c).1.1, (buS (st, wt, br, 0, wu, fl) c).1.2.1, (buS (st, wt, br, 0, wu, fl) c).1.2.2.1, (buS (st, wt, br, 0, wu, fl) c).1.2.2.2.1, (buS (st, wt, br, 0, wu, fl) c).1.2.2.2.2.1, 10 * p + 1) := (by unfold flS; rw [← hv2, if_pos (by omega)]); rw [e0, e1]; exact ⟨hI2.1, hI2.2.1, hI2.2.2.1, hI2.2.2.2.1, hI2.2.2.2.2.1, hI2.2.2.2.2.2.1, rfl, hI2.2.2.2.2.2.2.2.1, hI2.2.2.2.2.2.2.2.2⟩, fr_I hF02 (by decide)⟩
        · refine e_aload_n (pc' := 50) dX5_readCharacter_49 rfl rfl ?_
          refine e_aload_n (pc' := 51) dX5_readCharacter_50 rfl rfl ?_
          refine e_iload_n (pc' := 52) dX5_readCharacter_51 rfl rfl ?_
          refine e_cv2i (pc' := 55) dX5_readCharacter_52 rfl k_5_54 h_35 rfl (Nat.le_of_ble_eq_true rfl) rfl rfl ⟨rfl, rfl⟩ ⟨Nat.zero_le _, Nat.zero_le _⟩ (s_readUnit_11 n st wt br 0 wu fl hI0 hk0 p c hp hc hcc) ?_
          rintro v2 τ2 ⟨hv2, hI2, hF2⟩
          have hok := cuS_ok hk0 hp hcc
          have hv01 : v2 = 0 ∨ v2 = 1 := by rw [hv2]; exact hok.2
          have hflr := hok.1.2.2.2.2.2.1
          have hF02 := hF0.tr hF2
          refine e_goto (pc' := 64) dX5_readCharacter_55 (by decide) ?_
          refine e_istore (pc' := 66) (L' := [some (rv 35), some (rv 11), some (iv p), some (iv c), some (iv v2)]) dX5_readCharacter_64 rfl (by decide) rfl ?_
          refine e_iload (pc' := 68) dX5_readCharacter_66 rfl rfl ?_
          refine e_ifI (pc' := 71) (t := 89) dX5_readCharacter_68 (by decide) rfl ⟨by omega, by omega⟩ (fun (c10_5 : (v2 : Int) ≠ 0) => ?_) (fun (c10_5 : ¬ ((v2 : Int) ≠ 0)) => ?_)
          · exact e_vret dX5_readCharacter_89 rfl ⟨rfl, Nat.le_refl _⟩ ⟨rfl, by have e0 : chS (st, wt, br, dg, wu, fl) p c = flS (cuS (st, wt, br, 0, wu, fl) p c) p := (by unfold chS d0S; dsimp only; (repeat (first | (rw [if_pos (by omega)]) | (rw [if_neg (by omega)])))); have e1 : flS (cuS (st, wt, br, 0, wu, fl) p c) p = (cuS (st, wt, br, 0, wu, fl) p c).1 := (by unfold flS; rw [← hv2, if_neg (by omega)]); rw [e0, e1]; exact hI2, hF02⟩
          · refine e_aload_n (pc' := 72) dX5_readCharacter_71 rfl rfl ?_
            refine e_getI (pc' := 75) (v := ((cuS (st, wt, br, 0, wu, fl) p c).1.2.2.2.2.2)) dX5_readCharacter_72 rfl f_5_34 h_11 rfl hI2.2.2.2.2.2.2.1 ?_
            refine e_iconst (pc' := 76) dX5_readCharacter_75 rfl ?_
            refine e_icmpI (pc' := 79) (t := 89) dX5_readCharacter_76 (by decide) rfl ⟨by omega, by omega⟩ ⟨by omega, by omega⟩ (fun (c12_6 : (((cuS (st, wt, br, 0, wu, fl) p c).1.2.2.2.2.2) : Int) ≠ (-1)) => ?_) (fun (c12_6 : ¬ ((((cuS (st, wt, br, 0, wu, fl) p c).1.2.2.2.2.2) : Int) ≠ (-1))) => ?_)
            · exact e_vret dX5_readCharacter_89 rfl ⟨rfl, Nat.le_refl _⟩ ⟨rfl, by have e0 : chS (st, wt, br, dg, wu, fl) p c = flS (cuS (st, wt, br, 0, wu, fl) p c) p := (by unfold chS d0S; dsimp only; (repeat (first | (rw [if_pos (by omega)]) | (rw [if_neg (by omega)])))); have e1 : flS (cuS (st, wt, br, 0, wu, fl) p c) p = (cuS (st, wt, br, 0, wu, fl) p c).1 := (by unfold flS; rw [← hv2, if_neg (by omega)]); rw [e0, e1]; exact hI2, hF02⟩
            · refine e_aload_n (pc' := 80) dX5_readCharacter_79 rfl rfl ?_
              refine e_bipush (pc' := 82) (z := 10) dX5_readCharacter_80 rfl (by decide) ?_
              refine e_iload_n (pc' := 83) dX5_readCharacter_82 rfl rfl ?_
              refine e_imul (pc' := 84) dX5_readCharacter_83 rfl ?_
              refine e_iconst (pc' := 85) dX5_readCharacter_84 rfl ?_
              refine e_iadd (pc' := 86) dX5_readCharacter_85 rfl ?_
              refine e_putI (pc' := 89) dX5_readCharacter_86 rfl f_5_34 h_11 rfl rfl rfl ?_
              exact e_vret dX5_readCharacter_89 rfl ⟨rfl, Nat.le_refl _⟩ ⟨rfl, by have e0 : chS (st, wt, br, dg, wu, fl) p c = flS (cuS (st, wt, br, 0, wu, fl) p c) p := (by unfold chS d0S; dsimp only; (repeat (first | (rw [if_pos (by omega)]) | (rw [if_neg (by omega)])))); have e1 : flS (cuS (st, wt, br, 0, wu, fl) p c) p = ((cuS (st, wt, br, 0, wu, fl) p c).1.1, (cuS (st, wt, br, 0, wu, fl) p c).1.2.1, (cuS (st, wt, br, 0, wu, fl) p c).1.2.2.1, (cuS (st, wt, br, 0, wu, fl) p c).1.2.2.2.1, (cuS (st, wt, br, 0, wu, fl) p c).1.2.2.2.2.1, 10 * p + 1) := (by unfold flS; rw [← hv2, if_pos (by omega)]); rw [e0, e1]; exact ⟨hI2.1, hI2.2.1, hI2.2.2.1, hI2.2.2.2.1, hI2.2.2.2.2.1, hI2.2.2.2.2.2.1, rfl, hI2.2.2.2.2.2.2.2.1, hI2.2.2.2.2.2.2.2.2⟩, fr_I hF02 (by decide)⟩
      · exact e_vret dX5_readCharacter_41 rfl ⟨rfl, Nat.le_refl _⟩ ⟨rfl, by unfold chS; rw [if_neg (by omega), if_pos (by omega)]; exact hI0, hF0⟩
    · refine e_aload_n (pc' := 20) dX5_readCharacter_19 rfl rfl ?_
      refine e_aload_n (pc' := 21) dX5_readCharacter_20 rfl rfl ?_
      refine e_iload_n (pc' := 22) dX5_readCharacter_21 rfl rfl ?_
      refine e_iload_n (pc' := 23) dX5_readCharacter_22 rfl rfl ?_
      refine e_bipush (pc' := 25) (z := 48) dX5_readCharacter_23 rfl (by decide) ?_
      refine e_isub (pc' := 26) dX5_readCharacter_25 rfl ?_
      refine e_cv3v (pc' := 29) dX5_readCharacter_26 rfl k_5_50 h_35 rfl (Nat.le_of_ble_eq_true rfl) rfl rfl ⟨rfl, rfl⟩ ⟨Nat.zero_le _, Nat.zero_le _⟩ (s_readDigit_11 n st wt br dg wu fl hI hk p (c - 48) hp ⟨by omega, by omega⟩) ?_
      rintro τ2 ⟨hI2, hF2⟩
      exact e_vret dX5_readCharacter_29 rfl ⟨rfl, Nat.le_refl _⟩ ⟨rfl, by unfold chS; rw [if_pos (by omega)]; exact hI2, hF2⟩

set_option maxHeartbeats 4000000 in
set_option maxRecDepth 100000 in
theorem l_read60_11 {X : AX} {d : Nat} {σ : SG} (nn : Nat) (hnn : nn ≤ 40) (hT : ∀ j, 0 ≤ j → j < 40 → chr7 ((σ.1 12) j)) (i : Int) (τ : SG) (hI : RsI τ 11 (nn : Int) (rdS (σ.1 12) nn)) (hF : Fr [35, 36, 11, 13] σ τ) : Ev X 0 0 (d + 5) mX5_read 60 [some (rv 35), some (rv 11), some (iv i)] [] τ (QV (fun σ' => RsI σ' 11 (nn : Int) (fnS (σ.1 12) nn) ∧ Fr [35, 36, 11, 13] σ σ')) := by
  have hk := rdS_ok hT nn hnn
  have hk3 := hk.2.2.1
  have hk5 := hk.2.2.2.2.1
  have hk6 := hk.2.2.2.2.2.1
  refine e_aload_n (pc' := 61) dX5_read_60 rfl rfl ?_
  refine e_getI (pc' := 64) (v := (rdS (σ.1 12) nn).2.2.2.2.2) dX5_read_61 rfl f_5_34 h_11 rfl hI.2.2.2.2.2.2.1 ?_
  refine e_iconst (pc' := 65) dX5_read_64 rfl ?_
  refine e_icmpI (pc' := 68) (t := 95) dX5_read_65 (by decide) rfl ⟨by omega, by omega⟩ ⟨by omega, by omega⟩ (fun (c2_1 : ((rdS (σ.1 12) nn).2.2.2.2.2 : Int) ≠ (-1)) => ?_) (fun (c2_1 : ¬ (((rdS (σ.1 12) nn).2.2.2.2.2 : Int) ≠ (-1))) => ?_)
  · refine e_aload_n (pc' := 96) dX5_read_95 rfl rfl ?_
    refine e_aload_n (pc' := 97) dX5_read_96 rfl rfl ?_
    refine e_iconst (pc' := 98) dX5_read_97 rfl ?_
    refine e_cv2v (pc' := 101) dX5_read_98 rfl k_5_44 h_35 rfl (Nat.le_of_ble_eq_true rfl) rfl rfl ⟨rfl, rfl⟩ ⟨Nat.zero_le _, Nat.zero_le _⟩ (s_release_11 (nn : Int) (rdS (σ.1 12) nn).2.2.1 (rdS (σ.1 12) nn).2.2.2.1 (rdS (σ.1 12) nn).2.2.2.2.1 (rdS (σ.1 12) nn).2.2.2.2.2 1 ⟨by decide, by decide⟩ (rdS (σ.1 12) nn).2.1 (rdS (σ.1 12) nn).1 _ hI hk) ?_
    rintro τ3 ⟨hI3, hF3⟩
    exact e_vret dX5_read_101 rfl ⟨rfl, Nat.le_refl _⟩ ⟨rfl, by have e : fnS (σ.1 12) nn = ((rlS 1 (rdS (σ.1 12) nn).2.1 (rdS (σ.1 12) nn).1).2, (rlS 1 (rdS (σ.1 12) nn).2.1 (rdS (σ.1 12) nn).1).1, (rdS (σ.1 12) nn).2.2.1, (rdS (σ.1 12) nn).2.2.2.1, (rdS (σ.1 12) nn).2.2.2.2.1, (rdS (σ.1 12) nn).2.2.2.2.2) := (by unfold fnS; (repeat (first | (rw [if_pos (by omega)]) | (rw [if_neg (by omega)])))); rw [e]; exact hI3, hF.tr hF3⟩
  · refine e_aload_n (pc' := 69) dX5_read_68 rfl rfl ?_
    refine e_getI (pc' := 72) (v := (rdS (σ.1 12) nn).2.2.2.2.1) dX5_read_69 rfl f_5_25 h_35 rfl hI.2.2.2.1 ?_
    refine e_ifI (pc' := 75) (t := 82) dX5_read_72 (by decide) rfl ⟨by omega, by omega⟩ (fun (c4_2 : ((rdS (σ.1 12) nn).2.2.2.2.1 : Int) ≠ 0) => ?_) (fun (c4_2 : ¬ (((rdS (σ.1 12) nn).2.2.2.2.1 : Int) ≠ 0)) => ?_)
    · refine e_aload_n (pc' := 83) dX5_read_82 rfl rfl ?_
      refine e_bipush (pc' := 85) (z := 10) dX5_read_83 rfl (by decide) ?_
      refine e_aload_n (pc' := 86) dX5_read_85 rfl rfl ?_
      refine e_getI (pc' := 89) (v := (nn : Int)) dX5_read_86 rfl f_5_37 h_11 rfl hI.2.2.2.2.2.2.2.2 ?_
      refine e_imul (pc' := 90) dX5_read_89 rfl ?_
      refine e_iconst (pc' := 91) dX5_read_90 rfl ?_
      refine e_iadd (pc' := 92) dX5_read_91 rfl ?_
      refine e_putI (pc' := 95) dX5_read_92 rfl f_5_34 h_11 rfl rfl rfl ?_
      have hI2 : RsI (upI τ 11 4 ((10 * (nn : Int)) + 1)) 11 (nn : Int) ((rdS (σ.1 12) nn).1, (rdS (σ.1 12) nn).2.1, (rdS (σ.1 12) nn).2.2.1, (rdS (σ.1 12) nn).2.2.2.1, (rdS (σ.1 12) nn).2.2.2.2.1, 10 * (nn : Int) + 1) := ⟨hI.1, hI.2.1, hI.2.2.1, hI.2.2.2.1, hI.2.2.2.2.1, hI.2.2.2.2.2.1, rfl, hI.2.2.2.2.2.2.2.1, hI.2.2.2.2.2.2.2.2⟩
      have hk2 : rsOK ((rdS (σ.1 12) nn).1, (rdS (σ.1 12) nn).2.1, (rdS (σ.1 12) nn).2.2.1, (rdS (σ.1 12) nn).2.2.2.1, (rdS (σ.1 12) nn).2.2.2.2.1, 10 * (nn : Int) + 1) := ⟨hk.1, hk.2.1, hk.2.2.1, hk.2.2.2.1, hk.2.2.2.2.1, ⟨by show -1000 ≤ 10 * (nn : Int) + 1; omega, by show 10 * (nn : Int) + 1 ≤ 1000; omega⟩, hk.2.2.2.2.2.2⟩
      have hF2 : Fr [35, 36, 11, 13] σ (upI τ 11 4 ((10 * (nn : Int)) + 1)) := fr_I hF (by decide)
      refine e_aload_n (pc' := 96) dX5_read_95 rfl rfl ?_
      refine e_aload_n (pc' := 97) dX5_read_96 rfl rfl ?_
      refine e_iconst (pc' := 98) dX5_read_97 rfl ?_
      refine e_cv2v (pc' := 101) dX5_read_98 rfl k_5_44 h_35 rfl (Nat.le_of_ble_eq_true rfl) rfl rfl ⟨rfl, rfl⟩ ⟨Nat.zero_le _, Nat.zero_le _⟩ (s_release_11 (nn : Int) (rdS (σ.1 12) nn).2.2.1 (rdS (σ.1 12) nn).2.2.2.1 (rdS (σ.1 12) nn).2.2.2.2.1 (10 * (nn : Int) + 1) 1 ⟨by decide, by decide⟩ (rdS (σ.1 12) nn).2.1 (rdS (σ.1 12) nn).1 _ hI2 hk2) ?_
      rintro τ3 ⟨hI3, hF3⟩
      exact e_vret dX5_read_101 rfl ⟨rfl, Nat.le_refl _⟩ ⟨rfl, by have e : fnS (σ.1 12) nn = ((rlS 1 (rdS (σ.1 12) nn).2.1 (rdS (σ.1 12) nn).1).2, (rlS 1 (rdS (σ.1 12) nn).2.1 (rdS (σ.1 12) nn).1).1, (rdS (σ.1 12) nn).2.2.1, (rdS (σ.1 12) nn).2.2.2.1, (rdS (σ.1 12) nn).2.2.2.2.1, (10 * (nn : Int) + 1)) := (by unfold fnS; (repeat (first | (rw [if_pos (by omega)]) | (rw [if_neg (by omega)])))); rw [e]; exact hI3, hF2.tr hF3⟩
    · refine e_aload_n (pc' := 76) dX5_read_75 rfl rfl ?_
      refine e_getI (pc' := 79) (v := (rdS (σ.1 12) nn).2.2.1) dX5_read_76 rfl f_5_19 h_35 rfl hI.2.1 ?_
      refine e_ifI (pc' := 82) (t := 95) dX5_read_79 (by decide) rfl ⟨by omega, by omega⟩ (fun (c6_3 : ((rdS (σ.1 12) nn).2.2.1 : Int) ≤ 0) => ?_) (fun (c6_3 : ¬ (((rdS (σ.1 12) nn).2.2.1 : Int) ≤ 0)) => ?_)
      · refine e_aload_n (pc' := 96) dX5_read_95 rfl rfl ?_
        refine e_aload_n (pc' := 97) dX5_read_96 rfl rfl ?_
        refine e_iconst (pc' := 98) dX5_read_97 rfl ?_
        refine e_cv2v (pc' := 101) dX5_read_98 rfl k_5_44 h_35 rfl (Nat.le_of_ble_eq_true rfl) rfl rfl ⟨rfl, rfl⟩ ⟨Nat.zero_le _, Nat.zero_le _⟩ (s_release_11 (nn : Int) (rdS (σ.1 12) nn).2.2.1 (rdS (σ.1 12) nn).2.2.2.1 (rdS (σ.1 12) nn).2.2.2.2.1 (rdS (σ.1 12) nn).2.2.2.2.2 1 ⟨by decide, by decide⟩ (rdS (σ.1 12) nn).2.1 (rdS (σ.1 12) nn).1 _ hI hk) ?_
        rintro τ3 ⟨hI3, hF3⟩
        exact e_vret dX5_read_101 rfl ⟨rfl, Nat.le_refl _⟩ ⟨rfl, by have e : fnS (σ.1 12) nn = ((rlS 1 (rdS (σ.1 12) nn).2.1 (rdS (σ.1 12) nn).1).2, (rlS 1 (rdS (σ.1 12) nn).2.1 (rdS (σ.1 12) nn).1).1, (rdS (σ.1 12) nn).2.2.1, (rdS (σ.1 12) nn).2.2.2.1, (rdS (σ.1 12) nn).2.2.2.2.1, (rdS (σ.1 12) nn).2.2.2.2.2) := (by unfold fnS; (repeat (first | (rw [if_pos (by omega)]) | (rw [if_neg (by omega)])))); rw [e]; exact hI3, hF.tr hF3⟩
      · refine e_aload_n (pc' := 83) dX5_read_82 rfl rfl ?_
        refine e_bipush (pc' := 85) (z := 10) dX5_read_83 rfl (by decide) ?_
        refine e_aload_n (pc' := 86) dX5_read_85 rfl rfl ?_
        refine e_getI (pc' := 89) (v := (nn : Int)) dX5_read_86 rfl f_5_37 h_11 rfl hI.2.2.2.2.2.2.2.2 ?_
        refine e_imul (pc' := 90) dX5_read_89 rfl ?_
        refine e_iconst (pc' := 91) dX5_read_90 rfl ?_
        refine e_iadd (pc' := 92) dX5_read_91 rfl ?_
        refine e_putI (pc' := 95) dX5_read_92 rfl f_5_34 h_11 rfl rfl rfl ?_
        have hI2 : RsI (upI τ 11 4 ((10 * (nn : Int)) + 1)) 11 (nn : Int) ((rdS (σ.1 12) nn).1, (rdS (σ.1 12) nn).2.1, (rdS (σ.1 12) nn).2.2.1, (rdS (σ.1 12) nn).2.2.2.1, (rdS (σ.1 12) nn).2.2.2.2.1, 10 * (nn : Int) + 1) := ⟨hI.1, hI.2.1, hI.2.2.1, hI.2.2.2.1, hI.2.2.2.2.1, hI.2.2.2.2.2.1, rfl, hI.2.2.2.2.2.2.2.1, hI.2.2.2.2.2.2.2.2⟩
        have hk2 : rsOK ((rdS (σ.1 12) nn).1, (rdS (σ.1 12) nn).2.1, (rdS (σ.1 12) nn).2.2.1, (rdS (σ.1 12) nn).2.2.2.1, (rdS (σ.1 12) nn).2.2.2.2.1, 10 * (nn : Int) + 1) := ⟨hk.1, hk.2.1, hk.2.2.1, hk.2.2.2.1, hk.2.2.2.2.1, ⟨by show -1000 ≤ 10 * (nn : Int) + 1; omega, by show 10 * (nn : Int) + 1 ≤ 1000; omega⟩, hk.2.2.2.2.2.2⟩
        have hF2 : Fr [35, 36, 11, 13] σ (upI τ 11 4 ((10 * (nn : Int)) + 1)) := fr_I hF (by decide)
        refine e_aload_n (pc' := 96) dX5_read_95 rfl rfl ?_
        refine e_aload_n (pc' := 97) dX5_read_96 rfl rfl ?_
        refine e_iconst (pc' := 98) dX5_read_97 rfl ?_
        refine e_cv2v (pc' := 101) dX5_read_98 rfl k_5_44 h_35 rfl (Nat.le_of_ble_eq_true rfl) rfl rfl ⟨rfl, rfl⟩ ⟨Nat.zero_le _, Nat.zero_le _⟩ (s_release_11 (nn : Int) (rdS (σ.1 12) nn).2.2.1 (rdS (σ.1 12) nn).2.2.2.1 (rdS (σ.1 12) nn).2.2.2.2.1 (10 * (nn : Int) + 1) 1 ⟨by decide, by decide⟩ (rdS (σ.1 12) nn).2.1 (rdS (σ.1 12) nn).1 _ hI2 hk2) ?_
        rintro τ3 ⟨hI3, hF3⟩
        exact e_vret dX5_read_101 rfl ⟨rfl, Nat.le_refl _⟩ ⟨rfl, by have e : fnS (σ.1 12) nn = ((rlS 1 (rdS (σ.1 12) nn).2.1 (rdS (σ.1 12) nn).1).2, (rlS 1 (rdS (σ.1 12) nn).2.1 (rdS (σ.1 12) nn).1).1, (rdS (σ.1 12) nn).2.2.1, (rdS (σ.1 12) nn).2.2.2.1, (rdS (σ.1 12) nn).2.2.2.2.1, (10 * (nn : Int) + 1)) := (by unfold fnS; (repeat (first | (rw [if_pos (by omega)]) | (rw [if_neg (by omega)])))); rw [e]; exact hI3, hF2.tr hF3⟩

set_option maxHeartbeats 4000000 in
set_option maxRecDepth 100000 in
theorem l_read_11 {X : AX} {d : Nat} {σ : SG} (nn : Nat) (hnn : nn ≤ 40) (hT : ∀ j, 0 ≤ j → j < 40 → chr7 ((σ.1 12) j)) : ∀ (k m : Nat) (i : Int) (τ : SG), i = (m : Int) → m ≤ nn → nn - m < k → RsI τ 11 (nn : Int) (rdS (σ.1 12) m) → Fr [35, 36, 11, 13] σ τ → Ev X 0 0 (d + 5) mX5_read 32 [some (rv 35), some (rv 11), some (iv i)] [] τ (QV (fun σ' => RsI σ' 11 (nn : Int) (fnS (σ.1 12) nn) ∧ Fr [35, 36, 11, 13] σ σ')) := by
  intro k
  induction k with
  | zero => intros; omega
  | succ k ih =>
  intro m i τ hi0 him hik hI hF
  have hk := rdS_ok hT m (by omega)
  have hk6 := hk.2.2.2.2.2.1
  refine e_iload_n (pc' := 33) dX5_read_32 rfl rfl ?_
  refine e_aload_n (pc' := 34) dX5_read_33 rfl rfl ?_
  refine e_getI (pc' := 37) (v := (nn : Int)) dX5_read_34 rfl f_5_37 h_11 rfl hI.2.2.2.2.2.2.2.2 ?_
  refine e_icmpI (pc' := 40) (t := 60) dX5_read_37 (by decide) rfl ⟨by omega, by omega⟩ ⟨by omega, by omega⟩ (fun (c2_1 : (nn : Int) ≤ (i : Int)) => ?_) (fun (c2_1 : ¬ ((nn : Int) ≤ (i : Int))) => ?_)
  · first
      | (have e : (rdS (σ.1 12) nn) = (rdS (σ.1 12) m) := rdS_stop (by assumption) nn (by omega)
         exact l_read60_11 nn hnn hT i τ (by rw [e]; exact hI) hF)
      | (have e : m = nn := by omega
         subst e
         exact l_read60_11 m hnn hT i τ hI hF)
  · refine e_aload_n (pc' := 41) dX5_read_40 rfl rfl ?_
    refine e_getI (pc' := 44) (v := (rdS (σ.1 12) m).2.2.2.2.2) dX5_read_41 rfl f_5_34 h_11 rfl hI.2.2.2.2.2.2.1 ?_
    refine e_iconst (pc' := 45) dX5_read_44 rfl ?_
    refine e_icmpI (pc' := 48) (t := 60) dX5_read_45 (by decide) rfl ⟨by omega, by omega⟩ ⟨by omega, by omega⟩ (fun (c4_2 : ((rdS (σ.1 12) m).2.2.2.2.2 : Int) ≠ (-1)) => ?_) (fun (c4_2 : ¬ (((rdS (σ.1 12) m).2.2.2.2.2 : Int) ≠ (-1))) => ?_)
    · first
        | (have e : (rdS (σ.1 12) nn) = (rdS (σ.1 12) m) := rdS_stop (by assumption) nn (by omega)
           exact l_read60_11 nn hnn hT i τ (by rw [e]; exact hI) hF)
        | (have e : m = nn := by omega
           subst e
           exact l_read60_11 m hnn hT i τ hI hF)
    · refine e_aload_n (pc' := 49) dX5_read_48 rfl rfl ?_
      refine e_aload_n (pc' := 50) dX5_read_49 rfl rfl ?_
      refine e_iload_n (pc' := 51) dX5_read_50 rfl rfl ?_
      refine e_cv2v (pc' := 54) dX5_read_51 rfl k_5_40 h_35 rfl (Nat.le_of_ble_eq_true rfl) rfl rfl ⟨rfl, rfl⟩ ⟨Nat.zero_le _, Nat.zero_le _⟩ (s_readCharacter_11 (nn : Int) (rdS (σ.1 12) m).1 (rdS (σ.1 12) m).2.1 (rdS (σ.1 12) m).2.2.1 (rdS (σ.1 12) m).2.2.2.1 (rdS (σ.1 12) m).2.2.2.2.1 (rdS (σ.1 12) m).2.2.2.2.2 hI hk i ((σ.1 12) i) ⟨by omega, by omega⟩ (congrFun (hF 12 (by decide)).1 i) (hT i (by omega) (by omega))) ?_
      rintro τ2 ⟨hI2, hF2⟩
      refine e_iinc (pc' := 57) (L' := [some (rv 35), some (rv 11), some (iv (i + 1))]) dX5_read_54 rfl rfl (by decide) rfl ?_
      refine e_goto (pc' := 32) dX5_read_57 (by decide) ?_
      refine ih (m + 1) (i + 1) τ2 (by omega) (by omega) (by omega) ?_ (hF.tr hF2)
      rw [rdS_s hi0 (Classical.byContradiction (by assumption))]
      exact hI2

set_option maxHeartbeats 4000000 in
set_option maxRecDepth 100000 in
theorem s_read_11 {X : AX} {d : Nat} {σ : SG} (nn : Nat) (hnn : nn ≤ 40) (hT : ∀ j, 0 ≤ j → j < 40 → chr7 ((σ.1 12) j)) (hn : σ.1 11 2 = (nn : Int)) : Ev X 0 0 (d + 5) mX5_read 0 [some (rv 35), some (rv 11), none] [] σ (QV (fun σ' => RsI σ' 11 (nn : Int) (fnS (σ.1 12) nn) ∧ Fr [35, 36, 11, 13] σ σ')) := by
  refine e_aload_n (pc' := 1) dX5_read_0 rfl rfl ?_
  refine e_iconst (pc' := 2) dX5_read_1 rfl ?_
  refine e_putI (pc' := 5) dX5_read_2 rfl f_5_15 h_35 rfl rfl rfl ?_
  refine e_aload_n (pc' := 6) dX5_read_5 rfl rfl ?_
  refine e_iconst (pc' := 7) dX5_read_6 rfl ?_
  refine e_putI (pc' := 10) dX5_read_7 rfl f_5_19 h_35 rfl rfl rfl ?_
  refine e_aload_n (pc' := 11) dX5_read_10 rfl rfl ?_
  refine e_iconst (pc' := 12) dX5_read_11 rfl ?_
  refine e_putI (pc' := 15) dX5_read_12 rfl f_5_22 h_35 rfl rfl rfl ?_
  refine e_aload_n (pc' := 16) dX5_read_15 rfl rfl ?_
  refine e_iconst (pc' := 17) dX5_read_16 rfl ?_
  refine e_putI (pc' := 20) dX5_read_17 rfl f_5_25 h_35 rfl rfl rfl ?_
  refine e_aload_n (pc' := 21) dX5_read_20 rfl rfl ?_
  refine e_iconst (pc' := 22) dX5_read_21 rfl ?_
  refine e_putI (pc' := 25) dX5_read_22 rfl f_5_29 h_11 rfl rfl rfl ?_
  refine e_aload_n (pc' := 26) dX5_read_25 rfl rfl ?_
  refine e_iconst (pc' := 27) dX5_read_26 rfl ?_
  refine e_putI (pc' := 30) dX5_read_27 rfl f_5_34 h_11 rfl rfl rfl ?_
  refine e_iconst (pc' := 31) dX5_read_30 rfl ?_
  refine e_istore_n (pc' := 32) (L' := [some (rv 35), some (rv 11), some (iv 0)]) dX5_read_31 rfl (by decide) rfl ?_
  exact l_read_11 nn hnn hT (nn + 1) 0 0 _ rfl (by omega) (by omega) ⟨rfl, rfl, rfl, rfl, trivial, rfl, rfl, trivial, hn⟩ (by repeat (first | exact Fr.rf | assumption | (refine fr_I ?_ (by decide)) | (refine fr_J ?_ (by decide)) | (refine fr_C ?_ (by decide))))

set_option maxHeartbeats 4000000 in
set_option maxRecDepth 100000 in
theorem s_readCharacter_14 {X : AX} {d : Nat} {σ : SG} (n : Int) (st wt : List Int) (br dg wu fl : Int) (hI : RsI σ 14 n (st, wt, br, dg, wu, fl)) (hk : rsOK (st, wt, br, dg, wu, fl)) (p c : Int) (hp : 0 ≤ p ∧ p < 40) (hc : σ.1 15 p = c) (hcc : chr7 c) : Ev X 0 0 (d + 4) mX5_readCharacter 0 [some (rv 35), some (rv 14), some (iv p), none, none] [] σ (QV (fun σ' => RsI σ' 14 n (chS (st, wt, br, dg, wu, fl) p c) ∧ Fr [35, 36, 14, 16] σ σ')) := by
  obtain ⟨hk1, hk2, hk3, hk4, hk5, hk6, hk7⟩ := id hk
  simp only at hk1 hk2 hk3 hk4 hk5 hk6 hk7
  obtain ⟨hc1, hc2⟩ := id hcc
  refine e_aload_n (pc' := 1) dX5_readCharacter_0 rfl rfl ?_
  refine e_getR (pc' := 4) dX5_readCharacter_1 rfl f_5_47 h_14 rfl ?_
  refine e_iload_n (pc' := 5) dX5_readCharacter_4 rfl rfl ?_
  refine e_iald (pc' := 6) (v := c) dX5_readCharacter_5 rfl h_15 (by decide) (by omega) (by omega) hc ?_
  refine e_istore_n (pc' := 7) (L' := [some (rv 35), some (rv 14), some (iv p), some (iv c), none]) dX5_readCharacter_6 rfl (by decide) rfl ?_
  refine e_iload_n (pc' := 8) dX5_readCharacter_7 rfl rfl ?_
  refine e_bipush (pc' := 10) (z := 48) dX5_readCharacter_8 rfl (by decide) ?_
  refine e_icmpI (pc' := 13) (t := 30) dX5_readCharacter_10 (by decide) rfl ⟨by omega, by omega⟩ ⟨by omega, by omega⟩ (fun (c2_1 : (c : Int) < 48) => ?_) (fun (c2_1 : ¬ ((c : Int) < 48)) => ?_)
  · refine e_aload_n (pc' := 31) dX5_readCharacter_30 rfl rfl ?_
    refine e_iconst (pc' := 32) dX5_readCharacter_31 rfl ?_
    refine e_putI (pc' := 35) dX5_readCharacter_32 rfl f_5_22 h_35 rfl rfl rfl ?_
    have hI0 : RsI (upI σ 35 3 0) 14 n (st, wt, br, 0, wu, fl) := ⟨hI.1, hI.2.1, rfl, hI.2.2.2.1, hI.2.2.2.2.1, hI.2.2.2.2.2.1, hI.2.2.2.2.2.2.1, hI.2.2.2.2.2.2.2.1, hI.2.2.2.2.2.2.2.2⟩
    have hk0 : rsOK (st, wt, br, 0, wu, fl) := d0S_ok hk
    have hF0 : Fr [35, 36, 14, 16] σ (upI σ 35 3 0) := fr_I Fr.rf (by decide)
    refine e_iload_n (pc' := 36) dX5_readCharacter_35 rfl rfl ?_
    refine e_bipush (pc' := 38) (z := 32) dX5_readCharacter_36 rfl (by decide) ?_
    refine e_icmpI (pc' := 41) (t := 42) dX5_readCharacter_38 (by decide) rfl ⟨by omega, by omega⟩ ⟨by omega, by omega⟩ (fun (c4_2 : (c : Int) ≠ 32) => ?_) (fun (c4_2 : ¬ ((c : Int) ≠ 32)) => ?_)
    · refine e_aload_n (pc' := 43) dX5_readCharacter_42 rfl rfl ?_
      refine e_getI (pc' := 46) (v := wu) dX5_readCharacter_43 rfl f_5_25 h_35 rfl hI.2.2.2.1 ?_
      refine e_ifI (pc' := 49) (t := 58) dX5_readCharacter_46 (by decide) rfl ⟨by omega, by omega⟩ (fun (c6_3 : (wu : Int) = 0) => ?_) (fun (c6_3 : ¬ ((wu : Int) = 0)) => ?_)
      · refine e_aload_n (pc' := 59) dX5_readCharacter_58 rfl rfl ?_
        refine e_aload_n (pc' := 60) dX5_readCharacter_59 rfl rfl ?_
        refine e_iload_n (pc' := 61) dX5_readCharacter_60 rfl rfl ?_
        refine e_cv2i (pc' := 64) dX5_readCharacter_61 rfl k_5_58 h_35 rfl (Nat.le_of_ble_eq_true rfl) rfl rfl ⟨rfl, rfl⟩ ⟨Nat.zero_le _, Nat.zero_le _⟩ (s_readBehindUnit_14 n st wt br 0 wu fl hI0 hk0 c hcc) ?_
        rintro v2 τ2 ⟨hv2, hI2, hF2⟩
        have hok := buS_ok hk0 hcc
        have hv01 : v2 = 0 ∨ v2 = 1 := by rw [hv2]; exact hok.2
        have hflr := hok.1.2.2.2.2.2.1
        have hF02 := hF0.tr hF2
        refine e_istore (pc' := 66) (L' := [some (rv 35), some (rv 14), some (iv p), some (iv c), some (iv v2)]) dX5_readCharacter_64 rfl (by decide) rfl ?_
        refine e_iload (pc' := 68) dX5_readCharacter_66 rfl rfl ?_
        refine e_ifI (pc' := 71) (t := 89) dX5_readCharacter_68 (by decide) rfl ⟨by omega, by omega⟩ (fun (c8_4 : (v2 : Int) ≠ 0) => ?_) (fun (c8_4 : ¬ ((v2 : Int) ≠ 0)) => ?_)
        · exact e_vret dX5_readCharacter_89 rfl ⟨rfl, Nat.le_refl _⟩ ⟨rfl, by have e0 : chS (st, wt, br, dg, wu, fl) p c = flS (buS (st, wt, br, 0, wu, fl) c) p := (by unfold chS d0S; dsimp only; (repeat (first | (rw [if_pos (by omega)]) | (rw [if_neg (by omega)])))); have e1 : flS (buS (st, wt, br, 0, wu, fl) c) p = (buS (st, wt, br, 0, wu, fl) c).1 := (by unfold flS; rw [← hv2, if_neg (by omega)]); rw [e0, e1]; exact hI2, hF02⟩
        · refine e_aload_n (pc' := 72) dX5_readCharacter_71 rfl rfl ?_
          refine e_getI (pc' := 75) (v := ((buS (st, wt, br, 0, wu, fl) c).1.2.2.2.2.2)) dX5_readCharacter_72 rfl f_5_34 h_14 rfl hI2.2.2.2.2.2.2.1 ?_
          refine e_iconst (pc' := 76) dX5_readCharacter_75 rfl ?_
          refine e_icmpI (pc' := 79) (t := 89) dX5_readCharacter_76 (by decide) rfl ⟨by omega, by omega⟩ ⟨by omega, by omega⟩ (fun (c10_5 : (((buS (st, wt, br, 0, wu, fl) c).1.2.2.2.2.2) : Int) ≠ (-1)) => ?_) (fun (c10_5 : ¬ ((((buS (st, wt, br, 0, wu, fl) c).1.2.2.2.2.2) : Int) ≠ (-1))) => ?_)
          · exact e_vret dX5_readCharacter_89 rfl ⟨rfl, Nat.le_refl _⟩ ⟨rfl, by have e0 : chS (st, wt, br, dg, wu, fl) p c = flS (buS (st, wt, br, 0, wu, fl) c) p := (by unfold chS d0S; dsimp only; (repeat (first | (rw [if_pos (by omega)]) | (rw [if_neg (by omega)])))); have e1 : flS (buS (st, wt, br, 0, wu, fl) c) p = (buS (st, wt, br, 0, wu, fl) c).1 := (by unfold flS; rw [← hv2, if_neg (by omega)]); rw [e0, e1]; exact hI2, hF02⟩
          · refine e_aload_n (pc' := 80) dX5_readCharacter_79 rfl rfl ?_
            refine e_bipush (pc' := 82) (z := 10) dX5_readCharacter_80 rfl (by decide) ?_
            refine e_iload_n (pc' := 83) dX5_readCharacter_82 rfl rfl ?_
            refine e_imul (pc' := 84) dX5_readCharacter_83 rfl ?_
            refine e_iconst (pc' := 85) dX5_readCharacter_84 rfl ?_
            refine e_iadd (pc' := 86) dX5_readCharacter_85 rfl ?_
            refine e_putI (pc' := 89) dX5_readCharacter_86 rfl f_5_34 h_14 rfl rfl rfl ?_
            exact e_vret dX5_readCharacter_89 rfl ⟨rfl, Nat.le_refl _⟩ ⟨rfl, by have e0 : chS (st, wt, br, dg, wu, fl) p c = flS (buS (st, wt, br, 0, wu, fl) c) p := (by unfold chS d0S; dsimp only; (repeat (first | (rw [if_pos (by omega)]) | (rw [if_neg (by omega)])))); have e1 : flS (buS (st, wt, br, 0, wu, fl) c) p = ((buS (st, wt, br, 0, wu, fl) c).1.1, (buS (st, wt, br, 0, wu, fl) c).1.2.1, (buS (st, wt, br, 0, wu, fl) c).1.2.2.1, (buS (st, wt, br, 0, wu, fl) c).1.2.2.2.1, (buS (st, wt, br, 0, wu, fl) c).1.2.2.2.2.1, 10 * p + 1) := (by unfold flS; rw [← hv2, if_pos (by omega)]); rw [e0, e1]; exact ⟨hI2.1, hI2.2.1, hI2.2.2.1, hI2.2.2.2.1, hI2.2.2.2.2.1, hI2.2.2.2.2.2.1, rfl, hI2.2.2.2.2.2.2.2.1, hI2.2.2.2.2.2.2.2.2⟩, fr_I hF02 (by decide)⟩
      · refine e_aload_n (pc' := 50) dX5_readCharacter_49 rfl rfl ?_
        refine e_aload_n (pc' := 51) dX5_readCharacter_50 rfl rfl ?_
        refine e_iload_n (pc' := 52) dX5_readCharacter_51 rfl rfl ?_
        refine e_cv2i (pc' := 55) dX5_readCharacter_52 rfl k_5_54 h_35 rfl (Nat.le_of_ble_eq_true rfl) rfl rfl ⟨rfl, rfl⟩ ⟨Nat.zero_le _, Nat.zero_le _⟩ (s_readUnit_14 n st wt br 0 wu fl hI0 hk0 p c hp hc hcc) ?_
        rintro v2 τ2 ⟨hv2, hI2, hF2⟩
        have hok := cuS_ok hk0 hp hcc
        have hv01 : v2 = 0 ∨ v2 = 1 := by rw [hv2]; exact hok.2
        have hflr := hok.1.2.2.2.2.2.1
        have hF02 := hF0.tr hF2
        refine e_goto (pc' := 64) dX5_readCharacter_55 (by decide) ?_
        refine e_istore (pc' := 66) (L' := [some (rv 35), some (rv 14), some (iv p), some (iv c), some (iv v2)]) dX5_readCharacter_64 rfl (by decide) rfl ?_
        refine e_iload (pc' := 68) dX5_readCharacter_66 rfl rfl ?_
        refine e_ifI (pc' := 71) (t := 89) dX5_readCharacter_68 (by decide) rfl ⟨by omega, by omega⟩ (fun (c8_4 : (v2 : Int) ≠ 0) => ?_) (fun (c8_4 : ¬ ((v2 : Int) ≠ 0)) => ?_)
        · exact e_vret dX5_readCharacter_89 rfl ⟨rfl, Nat.le_refl _⟩ ⟨rfl, by have e0 : chS (st, wt, br, dg, wu, fl) p c = flS (cuS (st, wt, br, 0, wu, fl) p c) p := (by unfold chS d0S; dsimp only; (repeat (first | (rw [if_pos (by omega)]) | (rw [if_neg (by omega)])))); have e1 : flS (cuS (st, wt, br, 0, wu, fl) p c) p = (cuS (st, wt, br, 0, wu, fl) p c).1 := (by unfold flS; rw [← hv2, if_neg (by omega)]); rw [e0, e1]; exact hI2, hF02⟩
        · refine e_aload_n (pc' := 72) dX5_readCharacter_71 rfl rfl ?_
          refine e_getI (pc' := 75) (v := ((cuS (st, wt, br, 0, wu, fl) p c).1.2.2.2.2.2)) dX5_readCharacter_72 rfl f_5_34 h_14 rfl hI2.2.2.2.2.2.2.1 ?_
          refine e_iconst (pc' := 76) dX5_readCharacter_75 rfl ?_
          refine e_icmpI (pc' := 79) (t := 89) dX5_readCharacter_76 (by decide) rfl ⟨by omega, by omega⟩ ⟨by omega, by omega⟩ (fun (c10_5 : (((cuS (st, wt, br, 0, wu, fl) p c).1.2.2.2.2.2) : Int) ≠ (-1)) => ?_) (fun (c10_5 : ¬ ((((cuS (st, wt, br, 0, wu, fl) p c).1.2.2.2.2.2) : Int) ≠ (-1))) => ?_)
          · exact e_vret dX5_readCharacter_89 rfl ⟨rfl, Nat.le_refl _⟩ ⟨rfl, by have e0 : chS (st, wt, br, dg, wu, fl) p c = flS (cuS (st, wt, br, 0, wu, fl) p c) p := (by unfold chS d0S; dsimp only; (repeat (first | (rw [if_pos (by omega)]) | (rw [if_neg (by omega)])))); have e1 : flS (cuS (st, wt, br, 0, wu, fl) p c) p = (cuS (st, wt, br, 0, wu, fl) p c).1 := (by unfold flS; rw [← hv2, if_neg (by omega)]); rw [e0, e1]; exact hI2, hF02⟩
          · refine e_aload_n (pc' := 80) dX5_readCharacter_79 rfl rfl ?_
            refine e_bipush (pc' := 82) (z := 10) dX5_readCharacter_80 rfl (by decide) ?_
            refine e_iload_n (pc' := 83) dX5_readCharacter_82 rfl rfl ?_
            refine e_imul (pc' := 84) dX5_readCharacter_83 rfl ?_
            refine e_iconst (pc' := 85) dX5_readCharacter_84 rfl ?_
            refine e_iadd (pc' := 86) dX5_readCharacter_85 rfl ?_
            refine e_putI (pc' := 89) dX5_readCharacter_86 rfl f_5_34 h_14 rfl rfl rfl ?_
            exact e_vret dX5_readCharacter_89 rfl ⟨rfl, Nat.le_refl _⟩ ⟨rfl, by have e0 : chS (st, wt, br, dg, wu, fl) p c = flS (cuS (st, wt, br, 0, wu, fl) p c) p := (by unfold chS d0S; dsimp only; (repeat (first | (rw [if_pos (by omega)]) | (rw [if_neg (by omega)])))); have e1 : flS (cuS (st, wt, br, 0, wu, fl) p c) p = ((cuS (st, wt, br, 0, wu, fl) p c).1.1, (cuS (st, wt, br, 0, wu, fl) p c).1.2.1, (cuS (st, wt, br, 0, wu, fl) p c).1.2.2.1, (cuS (st, wt, br, 0, wu, fl) p c).1.2.2.2.1, (cuS (st, wt, br, 0, wu, fl) p c).1.2.2.2.2.1, 10 * p + 1) := (by unfold flS; rw [← hv2, if_pos (by omega)]); rw [e0, e1]; exact ⟨hI2.1, hI2.2.1, hI2.2.2.1, hI2.2.2.2.1, hI2.2.2.2.2.1, hI2.2.2.2.2.2.1, rfl, hI2.2.2.2.2.2.2.2.1, hI2.2.2.2.2.2.2.2.2⟩, fr_I hF02 (by decide)⟩
    · exact e_vret dX5_readCharacter_41 rfl ⟨rfl, Nat.le_refl _⟩ ⟨rfl, by unfold chS; rw [if_neg (by omega), if_pos (by omega)]; exact hI0, hF0⟩
  · refine e_iload_n (pc' := 14) dX5_readCharacter_13 rfl rfl ?_
    refine e_bipush (pc' := 16) (z := 57) dX5_readCharacter_14 rfl (by decide) ?_
    refine e_icmpI (pc' := 19) (t := 30) dX5_readCharacter_16 (by decide) rfl ⟨by omega, by omega⟩ ⟨by omega, by omega⟩ (fun (c4_2 : 57 < (c : Int)) => ?_) (fun (c4_2 : ¬ (57 < (c : Int))) => ?_)
    · refine e_aload_n (pc' := 31) dX5_readCharacter_30 rfl rfl ?_
      refine e_iconst (pc' := 32) dX5_readCharacter_31 rfl ?_
      refine e_putI (pc' := 35) dX5_readCharacter_32 rfl f_5_22 h_35 rfl rfl rfl ?_
      have hI0 : RsI (upI σ 35 3 0) 14 n (st, wt, br, 0, wu, fl) := ⟨hI.1, hI.2.1, rfl, hI.2.2.2.1, hI.2.2.2.2.1, hI.2.2.2.2.2.1, hI.2.2.2.2.2.2.1, hI.2.2.2.2.2.2.2.1, hI.2.2.2.2.2.2.2.2⟩
      have hk0 : rsOK (st, wt, br, 0, wu, fl) := d0S_ok hk
      have hF0 : Fr [35, 36, 14, 16] σ (upI σ 35 3 0) := fr_I Fr.rf (by decide)
      refine e_iload_n (pc' := 36) dX5_readCharacter_35 rfl rfl ?_
      refine e_bipush (pc' := 38) (z := 32) dX5_readCharacter_36 rfl (by decide) ?_
      refine e_icmpI (pc' := 41) (t := 42) dX5_readCharacter_38 (by decide) rfl ⟨by omega, by omega⟩ ⟨by omega, by omega⟩ (fun (c6_3 : (c : Int) ≠ 32) => ?_) (fun (c6_3 : ¬ ((c : Int) ≠ 32)) => ?_)
      · refine e_aload_n (pc' := 43) dX5_readCharacter_42 rfl rfl ?_
        refine e_getI (pc' := 46) (v := wu) dX5_readCharacter_43 rfl f_5_25 h_35 rfl hI.2.2.2.1 ?_
        refine e_ifI (pc' := 49) (t := 58) dX5_readCharacter_46 (by decide) rfl ⟨by omega, by omega⟩ (fun (c8_4 : (wu : Int) = 0) => ?_) (fun (c8_4 : ¬ ((wu : Int) = 0)) => ?_)
        · refine e_aload_n (pc' := 59) dX5_readCharacter_58 rfl rfl ?_
          refine e_aload_n (pc' := 60) dX5_readCharacter_59 rfl rfl ?_
          refine e_iload_n (pc' := 61) dX5_readCharacter_60 rfl rfl ?_
          refine e_cv2i (pc' := 64) dX5_readCharacter_61 rfl k_5_58 h_35 rfl (Nat.le_of_ble_eq_true rfl) rfl rfl ⟨rfl, rfl⟩ ⟨Nat.zero_le _, Nat.zero_le _⟩ (s_readBehindUnit_14 n st wt br 0 wu fl hI0 hk0 c hcc) ?_
          rintro v2 τ2 ⟨hv2, hI2, hF2⟩
          have hok := buS_ok hk0 hcc
          have hv01 : v2 = 0 ∨ v2 = 1 := by rw [hv2]; exact hok.2
          have hflr := hok.1.2.2.2.2.2.1
          have hF02 := hF0.tr hF2
          refine e_istore (pc' := 66) (L' := [some (rv 35), some (rv 14), some (iv p), some (iv c), some (iv v2)]) dX5_readCharacter_64 rfl (by decide) rfl ?_
          refine e_iload (pc' := 68) dX5_readCharacter_66 rfl rfl ?_
          refine e_ifI (pc' := 71) (t := 89) dX5_readCharacter_68 (by decide) rfl ⟨by omega, by omega⟩ (fun (c10_5 : (v2 : Int) ≠ 0) => ?_) (fun (c10_5 : ¬ ((v2 : Int) ≠ 0)) => ?_)
          · exact e_vret dX5_readCharacter_89 rfl ⟨rfl, Nat.le_refl _⟩ ⟨rfl, by have e0 : chS (st, wt, br, dg, wu, fl) p c = flS (buS (st, wt, br, 0, wu, fl) c) p := (by unfold chS d0S; dsimp only; (repeat (first | (rw [if_pos (by omega)]) | (rw [if_neg (by omega)])))); have e1 : flS (buS (st, wt, br, 0, wu, fl) c) p = (buS (st, wt, br, 0, wu, fl) c).1 := (by unfold flS; rw [← hv2, if_neg (by omega)]); rw [e0, e1]; exact hI2, hF02⟩
          · refine e_aload_n (pc' := 72) dX5_readCharacter_71 rfl rfl ?_
            refine e_getI (pc' := 75) (v := ((buS (st, wt, br, 0, wu, fl) c).1.2.2.2.2.2)) dX5_readCharacter_72 rfl f_5_34 h_14 rfl hI2.2.2.2.2.2.2.1 ?_
            refine e_iconst (pc' := 76) dX5_readCharacter_75 rfl ?_
            refine e_icmpI (pc' := 79) (t := 89) dX5_readCharacter_76 (by decide) rfl ⟨by omega, by omega⟩ ⟨by omega, by omega⟩ (fun (c12_6 : (((buS (st, wt, br, 0, wu, fl) c).1.2.2.2.2.2) : Int) ≠ (-1)) => ?_) (fun (c12_6 : ¬ ((((buS (st, wt, br, 0, wu, fl) c).1.2.2.2.2.2) : Int) ≠ (-1))) => ?_)
            · exact e_vret dX5_readCharacter_89 rfl ⟨rfl, Nat.le_refl _⟩ ⟨rfl, by have e0 : chS (st, wt, br, dg, wu, fl) p c = flS (buS (st, wt, br, 0, wu, fl) c) p := (by unfold chS d0S; dsimp only; (repeat (first | (rw [if_pos (by omega)]) | (rw [if_neg (by omega)])))); have e1 : flS (buS (st, wt, br, 0, wu, fl) c) p = (buS (st, wt, br, 0, wu, fl) c).1 := (by unfold flS; rw [← hv2, if_neg (by omega)]); rw [e0, e1]; exact hI2, hF02⟩
            · refine e_aload_n (pc' := 80) dX5_readCharacter_79 rfl rfl ?_
              refine e_bipush (pc' := 82) (z := 10) dX5_readCharacter_80 rfl (by decide) ?_
              refine e_iload_n (pc' := 83) dX5_readCharacter_82 rfl rfl ?_
              refine e_imul (pc' := 84) dX5_readCharacter_83 rfl ?_
              refine e_iconst (pc' := 85) dX5_readCharacter_84 rfl ?_
              refine e_iadd (pc' := 86) dX5_readCharacter_85 rfl ?_
              refine e_putI (pc' := 89) dX5_readCharacter_86 rfl f_5_34 h_14 rfl rfl rfl ?_
              exact e_vret dX5_readCharacter_89 rfl ⟨rfl, Nat.le_refl _⟩ ⟨rfl, by have e0 : chS (st, wt, br, dg, wu, fl) p c = flS (buS (st, wt, br, 0, wu, fl) c) p := (by unfold chS d0S; dsimp only; (repeat (first | (rw [if_pos (by omega)]) | (rw [if_neg (by omega)])))); have e1 : flS (buS (st, wt, br, 0, wu, fl) c) p = ((buS (st, wt, br, 0, wu, fl) c).1.1, (buS (st, wt, br, 0, wu, fl) c).1.2.1, (buS (st, wt, br, 0, wu, fl) c).1.2.2.1, (buS (st, wt, br, 0, wu, fl) c).1.2.2.2.1, (buS (st, wt, br, 0, wu, fl) c).1.2.2.2.2.1, 10 * p + 1) := (by unfold flS; rw [← hv2, if_pos (by omega)]); rw [e0, e1]; exact ⟨hI2.1, hI2.2.1, hI2.2.2.1, hI2.2.2.2.1, hI2.2.2.2.2.1, hI2.2.2.2.2.2.1, rfl, hI2.2.2.2.2.2.2.2.1, hI2.2.2.2.2.2.2.2.2⟩, fr_I hF02 (by decide)⟩
        · refine e_aload_n (pc' := 50) dX5_readCharacter_49 rfl rfl ?_
          refine e_aload_n (pc' := 51) dX5_readCharacter_50 rfl rfl ?_
          refine e_iload_n (pc' := 52) dX5_readCharacter_51 rfl rfl ?_
          refine e_cv2i (pc' := 55) dX5_readCharacter_52 rfl k_5_54 h_35 rfl (Nat.le_of_ble_eq_true rfl) rfl rfl ⟨rfl, rfl⟩ ⟨Nat.zero_le _, Nat.zero_le _⟩ (s_readUnit_14 n st wt br 0 wu fl hI0 hk0 p c hp hc hcc) ?_
          rintro v2 τ2 ⟨hv2, hI2, hF2⟩
          have hok := cuS_ok hk0 hp hcc
          have hv01 : v2 = 0 ∨ v2 = 1 := by rw [hv2]; exact hok.2
          have hflr := hok.1.2.2.2.2.2.1
          have hF02 := hF0.tr hF2
          refine e_goto (pc' := 64) dX5_readCharacter_55 (by decide) ?_
          refine e_istore (pc' := 66) (L' := [some (rv 35), some (rv 14), some (iv p), some (iv c), some (iv v2)]) dX5_readCharacter_64 rfl (by decide) rfl ?_
          refine e_iload (pc' := 68) dX5_readCharacter_66 rfl rfl ?_
          refine e_ifI (pc' := 71) (t := 89) dX5_readCharacter_68 (by decide) rfl ⟨by omega, by omega⟩ (fun (c10_5 : (v2 : Int) ≠ 0) => ?_) (fun (c10_5 : ¬ ((v2 : Int) ≠ 0)) => ?_)
          · exact e_vret dX5_readCharacter_89 rfl ⟨rfl, Nat.le_refl _⟩ ⟨rfl, by have e0 : chS (st, wt, br, dg, wu, fl) p c = flS (cuS (st, wt, br, 0, wu, fl) p c) p := (by unfold chS d0S; dsimp only; (repeat (first | (rw [if_pos (by omega)]) | (rw [if_neg (by omega)])))); have e1 : flS (cuS (st, wt, br, 0, wu, fl) p c) p = (cuS (st, wt, br, 0, wu, fl) p c).1 := (by unfold flS; rw [← hv2, if_neg (by omega)]); rw [e0, e1]; exact hI2, hF02⟩
          · refine e_aload_n (pc' := 72) dX5_readCharacter_71 rfl rfl ?_
            refine e_getI (pc' := 75) (v := ((cuS (st, wt, br, 0, wu, fl) p c).1.2.2.2.2.2)) dX5_readCharacter_72 rfl f_5_34 h_14 rfl hI2.2.2.2.2.2.2.1 ?_
            refine e_iconst (pc' := 76) dX5_readCharacter_75 rfl ?_
            refine e_icmpI (pc' := 79) (t := 89) dX5_readCharacter_76 (by decide) rfl ⟨by omega, by omega⟩ ⟨by omega, by omega⟩ (fun (c12_6 : (((cuS (st, wt, br, 0, wu, fl) p c).1.2.2.2.2.2) : Int) ≠ (-1)) => ?_) (fun (c12_6 : ¬ ((((cuS (st, wt, br, 0, wu, fl) p c).1.2.2.2.2.2) : Int) ≠ (-1))) => ?_)
            · exact e_vret dX5_readCharacter_89 rfl ⟨rfl, Nat.le_refl _⟩ ⟨rfl, by have e0 : chS (st, wt, br, dg, wu, fl) p c = flS (cuS (st, wt, br, 0, wu, fl) p c) p := (by unfold chS d0S; dsimp only; (repeat (first | (rw [if_pos (by omega)]) | (rw [if_neg (by omega)])))); have e1 : flS (cuS (st, wt, br, 0, wu, fl) p c) p = (cuS (st, wt, br, 0, wu, fl) p c).1 := (by unfold flS; rw [← hv2, if_neg (by omega)]); rw [e0, e1]; exact hI2, hF02⟩
            · refine e_aload_n (pc' := 80) dX5_readCharacter_79 rfl rfl ?_
              refine e_bipush (pc' := 82) (z := 10) dX5_readCharacter_80 rfl (by decide) ?_
              refine e_iload_n (pc' := 83) dX5_readCharacter_82 rfl rfl ?_
              refine e_imul (pc' := 84) dX5_readCharacter_83 rfl ?_
              refine e_iconst (pc' := 85) dX5_readCharacter_84 rfl ?_
              refine e_iadd (pc' := 86) dX5_readCharacter_85 rfl ?_
              refine e_putI (pc' := 89) dX5_readCharacter_86 rfl f_5_34 h_14 rfl rfl rfl ?_
              exact e_vret dX5_readCharacter_89 rfl ⟨rfl, Nat.le_refl _⟩ ⟨rfl, by have e0 : chS (st, wt, br, dg, wu, fl) p c = flS (cuS (st, wt, br, 0, wu, fl) p c) p := (by unfold chS d0S; dsimp only; (repeat (first | (rw [if_pos (by omega)]) | (rw [if_neg (by omega)])))); have e1 : flS (cuS (st, wt, br, 0, wu, fl) p c) p = ((cuS (st, wt, br, 0, wu, fl) p c).1.1, (cuS (st, wt, br, 0, wu, fl) p c).1.2.1, (cuS (st, wt, br, 0, wu, fl) p c).1.2.2.1, (cuS (st, wt, br, 0, wu, fl) p c).1.2.2.2.1, (cuS (st, wt, br, 0, wu, fl) p c).1.2.2.2.2.1, 10 * p + 1) := (by unfold flS; rw [← hv2, if_pos (by omega)]); rw [e0, e1]; exact ⟨hI2.1, hI2.2.1, hI2.2.2.1, hI2.2.2.2.1, hI2.2.2.2.2.1, hI2.2.2.2.2.2.1, rfl, hI2.2.2.2.2.2.2.2.1, hI2.2.2.2.2.2.2.2.2⟩, fr_I hF02 (by decide)⟩
      · exact e_vret dX5_readCharacter_41 rfl ⟨rfl, Nat.le_refl _⟩ ⟨rfl, by unfold chS; rw [if_neg (by omega), if_pos (by omega)]; exact hI0, hF0⟩
    · refine e_aload_n (pc' := 20) dX5_readCharacter_19 rfl rfl ?_
      refine e_aload_n (pc' := 21) dX5_readCharacter_20 rfl rfl ?_
      refine e_iload_n (pc' := 22) dX5_readCharacter_21 rfl rfl ?_
      refine e_iload_n (pc' := 23) dX5_readCharacter_22 rfl rfl ?_
      refine e_bipush (pc' := 25) (z := 48) dX5_readCharacter_23 rfl (by decide) ?_
      refine e_isub (pc' := 26) dX5_readCharacter_25 rfl ?_
      refine e_cv3v (pc' := 29) dX5_readCharacter_26 rfl k_5_50 h_35 rfl (Nat.le_of_ble_eq_true rfl) rfl rfl ⟨rfl, rfl⟩ ⟨Nat.zero_le _, Nat.zero_le _⟩ (s_readDigit_14 n st wt br dg wu fl hI hk p (c - 48) hp ⟨by omega, by omega⟩) ?_
      rintro τ2 ⟨hI2, hF2⟩
      exact e_vret dX5_readCharacter_29 rfl ⟨rfl, Nat.le_refl _⟩ ⟨rfl, by unfold chS; rw [if_pos (by omega)]; exact hI2, hF2⟩

set_option maxHeartbeats 4000000 in
set_option maxRecDepth 100000 in
theorem l_read60_14 {X : AX} {d : Nat} {σ : SG} (nn : Nat) (hnn : nn ≤ 40) (hT : ∀ j, 0 ≤ j → j < 40 → chr7 ((σ.1 15) j)) (i : Int) (τ : SG) (hI : RsI τ 14 (nn : Int) (rdS (σ.1 15) nn)) (hF : Fr [35, 36, 14, 16] σ τ) : Ev X 0 0 (d + 5) mX5_read 60 [some (rv 35), some (rv 14), some (iv i)] [] τ (QV (fun σ' => RsI σ' 14 (nn : Int) (fnS (σ.1 15) nn) ∧ Fr [35, 36, 14, 16] σ σ')) := by
  have hk := rdS_ok hT nn hnn
  have hk3 := hk.2.2.1
  have hk5 := hk.2.2.2.2.1
  have hk6 := hk.2.2.2.2.2.1
  refine e_aload_n (pc' := 61) dX5_read_60 rfl rfl ?_
  refine e_getI (pc' := 64) (v := (rdS (σ.1 15) nn).2.2.2.2.2) dX5_read_61 rfl f_5_34 h_14 rfl hI.2.2.2.2.2.2.1 ?_
  refine e_iconst (pc' := 65) dX5_read_64 rfl ?_
  refine e_icmpI (pc' := 68) (t := 95) dX5_read_65 (by decide) rfl ⟨by omega, by omega⟩ ⟨by omega, by omega⟩ (fun (c2_1 : ((rdS (σ.1 15) nn).2.2.2.2.2 : Int) ≠ (-1)) => ?_) (fun (c2_1 : ¬ (((rdS (σ.1 15) nn).2.2.2.2.2 : Int) ≠ (-1))) => ?_)
  · refine e_aload_n (pc' := 96) dX5_read_95 rfl rfl ?_
    refine e_aload_n (pc' := 97) dX5_read_96 rfl rfl ?_
    refine e_iconst (pc' := 98) dX5_read_97 rfl ?_
    refine e_cv2v (pc' := 101) dX5_read_98 rfl k_5_44 h_35 rfl (Nat.le_of_ble_eq_true rfl) rfl rfl ⟨rfl, rfl⟩ ⟨Nat.zero_le _, Nat.zero_le _⟩ (s_release_14 (nn : Int) (rdS (σ.1 15) nn).2.2.1 (rdS (σ.1 15) nn).2.2.2.1 (rdS (σ.1 15) nn).2.2.2.2.1 (rdS (σ.1 15) nn).2.2.2.2.2 1 ⟨by decide, by decide⟩ (rdS (σ.1 15) nn).2.1 (rdS (σ.1 15) nn).1 _ hI hk) ?_
    rintro τ3 ⟨hI3, hF3⟩
    exact e_vret dX5_read_101 rfl ⟨rfl, Nat.le_refl _⟩ ⟨rfl, by have e : fnS (σ.1 15) nn = ((rlS 1 (rdS (σ.1 15) nn).2.1 (rdS (σ.1 15) nn).1).2, (rlS 1 (rdS (σ.1 15) nn).2.1 (rdS (σ.1 15) nn).1).1, (rdS (σ.1 15) nn).2.2.1, (rdS (σ.1 15) nn).2.2.2.1, (rdS (σ.1 15) nn).2.2.2.2.1, (rdS (σ.1 15) nn).2.2.2.2.2) := (by unfold fnS; (repeat (first | (rw [if_pos (by omega)]) | (rw [if_neg (by omega)])))); rw [e]; exact hI3, hF.tr hF3⟩
  · refine e_aload_n (pc' := 69) dX5_read_68 rfl rfl ?_
    refine e_getI (pc' := 72) (v := (rdS (σ.1 15) nn).2.2.2.2.1) dX5_read_69 rfl f_5_25 h_35 rfl hI.2.2.2.1 ?_
    refine e_ifI (pc' := 75) (t := 82) dX5_read_72 (by decide) rfl ⟨by omega, by omega⟩ (fun (c4_2 : ((rdS (σ.1 15) nn).2.2.2.2.1 : Int) ≠ 0) => ?_) (fun (c4_2 : ¬ (((rdS (σ.1 15) nn).2.2.2.2.1 : Int) ≠ 0)) => ?_)
    · refine e_aload_n (pc' := 83) dX5_read_82 rfl rfl ?_
      refine e_bipush (pc' := 85) (z := 10) dX5_read_83 rfl (by decide) ?_
      refine e_aload_n (pc' := 86) dX5_read_85 rfl rfl ?_
      refine e_getI (pc' := 89) (v := (nn : Int)) dX5_read_86 rfl f_5_37 h_14 rfl hI.2.2.2.2.2.2.2.2 ?_
      refine e_imul (pc' := 90) dX5_read_89 rfl ?_
      refine e_iconst (pc' := 91) dX5_read_90 rfl ?_
      refine e_iadd (pc' := 92) dX5_read_91 rfl ?_
      refine e_putI (pc' := 95) dX5_read_92 rfl f_5_34 h_14 rfl rfl rfl ?_
      have hI2 : RsI (upI τ 14 4 ((10 * (nn : Int)) + 1)) 14 (nn : Int) ((rdS (σ.1 15) nn).1, (rdS (σ.1 15) nn).2.1, (rdS (σ.1 15) nn).2.2.1, (rdS (σ.1 15) nn).2.2.2.1, (rdS (σ.1 15) nn).2.2.2.2.1, 10 * (nn : Int) + 1) := ⟨hI.1, hI.2.1, hI.2.2.1, hI.2.2.2.1, hI.2.2.2.2.1, hI.2.2.2.2.2.1, rfl, hI.2.2.2.2.2.2.2.1, hI.2.2.2.2.2.2.2.2⟩
      have hk2 : rsOK ((rdS (σ.1 15) nn).1, (rdS (σ.1 15) nn).2.1, (rdS (σ.1 15) nn).2.2.1, (rdS (σ.1 15) nn).2.2.2.1, (rdS (σ.1 15) nn).2.2.2.2.1, 10 * (nn : Int) + 1) := ⟨hk.1, hk.2.1, hk.2.2.1, hk.2.2.2.1, hk.2.2.2.2.1, ⟨by show -1000 ≤ 10 * (nn : Int) + 1; omega, by show 10 * (nn : Int) + 1 ≤ 1000; omega⟩, hk.2.2.2.2.2.2⟩
      have hF2 : Fr [35, 36, 14, 16] σ (upI τ 14 4 ((10 * (nn : Int)) + 1)) := fr_I hF (by decide)
      refine e_aload_n (pc' := 96) dX5_read_95 rfl rfl ?_
      refine e_aload_n (pc' := 97) dX5_read_96 rfl rfl ?_
      refine e_iconst (pc' := 98) dX5_read_97 rfl ?_
      refine e_cv2v (pc' := 101) dX5_read_98 rfl k_5_44 h_35 rfl (Nat.le_of_ble_eq_true rfl) rfl rfl ⟨rfl, rfl⟩ ⟨Nat.zero_le _, Nat.zero_le _⟩ (s_release_14 (nn : Int) (rdS (σ.1 15) nn).2.2.1 (rdS (σ.1 15) nn).2.2.2.1 (rdS (σ.1 15) nn).2.2.2.2.1 (10 * (nn : Int) + 1) 1 ⟨by decide, by decide⟩ (rdS (σ.1 15) nn).2.1 (rdS (σ.1 15) nn).1 _ hI2 hk2) ?_
      rintro τ3 ⟨hI3, hF3⟩
      exact e_vret dX5_read_101 rfl ⟨rfl, Nat.le_refl _⟩ ⟨rfl, by have e : fnS (σ.1 15) nn = ((rlS 1 (rdS (σ.1 15) nn).2.1 (rdS (σ.1 15) nn).1).2, (rlS 1 (rdS (σ.1 15) nn).2.1 (rdS (σ.1 15) nn).1).1, (rdS (σ.1 15) nn).2.2.1, (rdS (σ.1 15) nn).2.2.2.1, (rdS (σ.1 15) nn).2.2.2.2.1, (10 * (nn : Int) + 1)) := (by unfold fnS; (repeat (first | (rw [if_pos (by omega)]) | (rw [if_neg (by omega)])))); rw [e]; exact hI3, hF2.tr hF3⟩
    · refine e_aload_n (pc' := 76) dX5_read_75 rfl rfl ?_
      refine e_getI (pc' := 79) (v := (rdS (σ.1 15) nn).2.2.1) dX5_read_76 rfl f_5_19 h_35 rfl hI.2.1 ?_
      refine e_ifI (pc' := 82) (t := 95) dX5_read_79 (by decide) rfl ⟨by omega, by omega⟩ (fun (c6_3 : ((rdS (σ.1 15) nn).2.2.1 : Int) ≤ 0) => ?_) (fun (c6_3 : ¬ (((rdS (σ.1 15) nn).2.2.1 : Int) ≤ 0)) => ?_)
      · refine e_aload_n (pc' := 96) dX5_read_95 rfl rfl ?_
        refine e_aload_n (pc' := 97) dX5_read_96 rfl rfl ?_
        refine e_iconst (pc' := 98) dX5_read_97 rfl ?_
        refine e_cv2v (pc' := 101) dX5_read_98 rfl k_5_44 h_35 rfl (Nat.le_of_ble_eq_true rfl) rfl rfl ⟨rfl, rfl⟩ ⟨Nat.zero_le _, Nat.zero_le _⟩ (s_release_14 (nn : Int) (rdS (σ.1 15) nn).2.2.1 (rdS (σ.1 15) nn).2.2.2.1 (rdS (σ.1 15) nn).2.2.2.2.1 (rdS (σ.1 15) nn).2.2.2.2.2 1 ⟨by decide, by decide⟩ (rdS (σ.1 15) nn).2.1 (rdS (σ.1 15) nn).1 _ hI hk) ?_
        rintro τ3 ⟨hI3, hF3⟩
        exact e_vret dX5_read_101 rfl ⟨rfl, Nat.le_refl _⟩ ⟨rfl, by have e : fnS (σ.1 15) nn = ((rlS 1 (rdS (σ.1 15) nn).2.1 (rdS (σ.1 15) nn).1).2, (rlS 1 (rdS (σ.1 15) nn).2.1 (rdS (σ.1 15) nn).1).1, (rdS (σ.1 15) nn).2.2.1, (rdS (σ.1 15) nn).2.2.2.1, (rdS (σ.1 15) nn).2.2.2.2.1, (rdS (σ.1 15) nn).2.2.2.2.2) := (by unfold fnS; (repeat (first | (rw [if_pos (by omega)]) | (rw [if_neg (by omega)])))); rw [e]; exact hI3, hF.tr hF3⟩
      · refine e_aload_n (pc' := 83) dX5_read_82 rfl rfl ?_
        refine e_bipush (pc' := 85) (z := 10) dX5_read_83 rfl (by decide) ?_
        refine e_aload_n (pc' := 86) dX5_read_85 rfl rfl ?_
        refine e_getI (pc' := 89) (v := (nn : Int)) dX5_read_86 rfl f_5_37 h_14 rfl hI.2.2.2.2.2.2.2.2 ?_
        refine e_imul (pc' := 90) dX5_read_89 rfl ?_
        refine e_iconst (pc' := 91) dX5_read_90 rfl ?_
        refine e_iadd (pc' := 92) dX5_read_91 rfl ?_
        refine e_putI (pc' := 95) dX5_read_92 rfl f_5_34 h_14 rfl rfl rfl ?_
        have hI2 : RsI (upI τ 14 4 ((10 * (nn : Int)) + 1)) 14 (nn : Int) ((rdS (σ.1 15) nn).1, (rdS (σ.1 15) nn).2.1, (rdS (σ.1 15) nn).2.2.1, (rdS (σ.1 15) nn).2.2.2.1, (rdS (σ.1 15) nn).2.2.2.2.1, 10 * (nn : Int) + 1) := ⟨hI.1, hI.2.1, hI.2.2.1, hI.2.2.2.1, hI.2.2.2.2.1, hI.2.2.2.2.2.1, rfl, hI.2.2.2.2.2.2.2.1, hI.2.2.2.2.2.2.2.2⟩
        have hk2 : rsOK ((rdS (σ.1 15) nn).1, (rdS (σ.1 15) nn).2.1, (rdS (σ.1 15) nn).2.2.1, (rdS (σ.1 15) nn).2.2.2.1, (rdS (σ.1 15) nn).2.2.2.2.1, 10 * (nn : Int) + 1) := ⟨hk.1, hk.2.1, hk.2.2.1, hk.2.2.2.1, hk.2.2.2.2.1, ⟨by show -1000 ≤ 10 * (nn : Int) + 1; omega, by show 10 * (nn : Int) + 1 ≤ 1000; omega⟩, hk.2.2.2.2.2.2⟩
        have hF2 : Fr [35, 36, 14, 16] σ (upI τ 14 4 ((10 * (nn : Int)) + 1)) := fr_I hF (by decide)
        refine e_aload_n (pc' := 96) dX5_read_95 rfl rfl ?_
        refine e_aload_n (pc' := 97) dX5_read_96 rfl rfl ?_
        refine e_iconst (pc' := 98) dX5_read_97 rfl ?_
        refine e_cv2v (pc' := 101) dX5_read_98 rfl k_5_44 h_35 rfl (Nat.le_of_ble_eq_true rfl) rfl rfl ⟨rfl, rfl⟩ ⟨Nat.zero_le _, Nat.zero_le _⟩ (s_release_14 (nn : Int) (rdS (σ.1 15) nn).2.2.1 (rdS (σ.1 15) nn).2.2.2.1 (rdS (σ.1 15) nn).2.2.2.2.1 (10 * (nn : Int) + 1) 1 ⟨by decide, by decide⟩ (rdS (σ.1 15) nn).2.1 (rdS (σ.1 15) nn).1 _ hI2 hk2) ?_
        rintro τ3 ⟨hI3, hF3⟩
        exact e_vret dX5_read_101 rfl ⟨rfl, Nat.le_refl _⟩ ⟨rfl, by have e : fnS (σ.1 15) nn = ((rlS 1 (rdS (σ.1 15) nn).2.1 (rdS (σ.1 15) nn).1).2, (rlS 1 (rdS (σ.1 15) nn).2.1 (rdS (σ.1 15) nn).1).1, (rdS (σ.1 15) nn).2.2.1, (rdS (σ.1 15) nn).2.2.2.1, (rdS (σ.1 15) nn).2.2.2.2.1, (10 * (nn : Int) + 1)) := (by unfold fnS; (repeat (first | (rw [if_pos (by omega)]) | (rw [if_neg (by omega)])))); rw [e]; exact hI3, hF2.tr hF3⟩

set_option maxHeartbeats 4000000 in
set_option maxRecDepth 100000 in
theorem l_read_14 {X : AX} {d : Nat} {σ : SG} (nn : Nat) (hnn : nn ≤ 40) (hT : ∀ j, 0 ≤ j → j < 40 → chr7 ((σ.1 15) j)) : ∀ (k m : Nat) (i : Int) (τ : SG), i = (m : Int) → m ≤ nn → nn - m < k → RsI τ 14 (nn : Int) (rdS (σ.1 15) m) → Fr [35, 36, 14, 16] σ τ → Ev X 0 0 (d + 5) mX5_read 32 [some (rv 35), some (rv 14), some (iv i)] [] τ (QV (fun σ' => RsI σ' 14 (nn : Int) (fnS (σ.1 15) nn) ∧ Fr [35, 36, 14, 16] σ σ')) := by
  intro k
  induction k with
  | zero => intros; omega
  | succ k ih =>
  intro m i τ hi0 him hik hI hF
  have hk := rdS_ok hT m (by omega)
  have hk6 := hk.2.2.2.2.2.1
  refine e_iload_n (pc' := 33) dX5_read_32 rfl rfl ?_
  refine e_aload_n (pc' := 34) dX5_read_33 rfl rfl ?_
  refine e_getI (pc' := 37) (v := (nn : Int)) dX5_read_34 rfl f_5_37 h_14 rfl hI.2.2.2.2.2.2.2.2 ?_
  refine e_icmpI (pc' := 40) (t := 60) dX5_read_37 (by decide) rfl ⟨by omega, by omega⟩ ⟨by omega, by omega⟩ (fun (c2_1 : (nn : Int) ≤ (i : Int)) => ?_) (fun (c2_1 : ¬ ((nn : Int) ≤ (i : Int))) => ?_)
  · first
      | (have e : (rdS (σ.1 15) nn) = (rdS (σ.1 15) m) := rdS_stop (by assumption) nn (by omega)
         exact l_read60_14 nn hnn hT i τ (by rw [e]; exact hI) hF)
      | (have e : m = nn := by omega
         subst e
         exact l_read60_14 m hnn hT i τ hI hF)
  · refine e_aload_n (pc' := 41) dX5_read_40 rfl rfl ?_
    refine e_getI (pc' := 44) (v := (rdS (σ.1 15) m).2.2.2.2.2) dX5_read_41 rfl f_5_34 h_14 rfl hI.2.2.2.2.2.2.1 ?_
    refine e_iconst (pc' := 45) dX5_read_44 rfl ?_
    refine e_icmpI (pc' := 48) (t := 60) dX5_read_45 (by decide) rfl ⟨by omega, by omega⟩ ⟨by omega, by omega⟩ (fun (c4_2 : ((rdS (σ.1 15) m).2.2.2.2.2 : Int) ≠ (-1)) => ?_) (fun (c4_2 : ¬ (((rdS (σ.1 15) m).2.2.2.2.2 : Int) ≠ (-1))) => ?_)
    · first
        | (have e : (rdS (σ.1 15) nn) = (rdS (σ.1 15) m) := rdS_stop (by assumption) nn (by omega)
           exact l_read60_14 nn hnn hT i τ (by rw [e]; exact hI) hF)
        | (have e : m = nn := by omega
           subst e
           exact l_read60_14 m hnn hT i τ hI hF)
    · refine e_aload_n (pc' := 49) dX5_read_48 rfl rfl ?_
      refine e_aload_n (pc' := 50) dX5_read_49 rfl rfl ?_
      refine e_iload_n (pc' := 51) dX5_read_50 rfl rfl ?_
      refine e_cv2v (pc' := 54) dX5_read_51 rfl k_5_40 h_35 rfl (Nat.le_of_ble_eq_true rfl) rfl rfl ⟨rfl, rfl⟩ ⟨Nat.zero_le _, Nat.zero_le _⟩ (s_readCharacter_14 (nn : Int) (rdS (σ.1 15) m).1 (rdS (σ.1 15) m).2.1 (rdS (σ.1 15) m).2.2.1 (rdS (σ.1 15) m).2.2.2.1 (rdS (σ.1 15) m).2.2.2.2.1 (rdS (σ.1 15) m).2.2.2.2.2 hI hk i ((σ.1 15) i) ⟨by omega, by omega⟩ (congrFun (hF 15 (by decide)).1 i) (hT i (by omega) (by omega))) ?_
      rintro τ2 ⟨hI2, hF2⟩
      refine e_iinc (pc' := 57) (L' := [some (rv 35), some (rv 14), some (iv (i + 1))]) dX5_read_54 rfl rfl (by decide) rfl ?_
      refine e_goto (pc' := 32) dX5_read_57 (by decide) ?_
      refine ih (m + 1) (i + 1) τ2 (by omega) (by omega) (by omega) ?_ (hF.tr hF2)
      rw [rdS_s hi0 (Classical.byContradiction (by assumption))]
      exact hI2

set_option maxHeartbeats 4000000 in
set_option maxRecDepth 100000 in
theorem s_read_14 {X : AX} {d : Nat} {σ : SG} (nn : Nat) (hnn : nn ≤ 40) (hT : ∀ j, 0 ≤ j → j < 40 → chr7 ((σ.1 15) j)) (hn : σ.1 14 2 = (nn : Int)) : Ev X 0 0 (d + 5) mX5_read 0 [some (rv 35), some (rv 14), none] [] σ (QV (fun σ' => RsI σ' 14 (nn : Int) (fnS (σ.1 15) nn) ∧ Fr [35, 36, 14, 16] σ σ')) := by
  refine e_aload_n (pc' := 1) dX5_read_0 rfl rfl ?_
  refine e_iconst (pc' := 2) dX5_read_1 rfl ?_
  refine e_putI (pc' := 5) dX5_read_2 rfl f_5_15 h_35 rfl rfl rfl ?_
  refine e_aload_n (pc' := 6) dX5_read_5 rfl rfl ?_
  refine e_iconst (pc' := 7) dX5_read_6 rfl ?_
  refine e_putI (pc' := 10) dX5_read_7 rfl f_5_19 h_35 rfl rfl rfl ?_
  refine e_aload_n (pc' := 11) dX5_read_10 rfl rfl ?_
  refine e_iconst (pc' := 12) dX5_read_11 rfl ?_
  refine e_putI (pc' := 15) dX5_read_12 rfl f_5_22 h_35 rfl rfl rfl ?_
  refine e_aload_n (pc' := 16) dX5_read_15 rfl rfl ?_
  refine e_iconst (pc' := 17) dX5_read_16 rfl ?_
  refine e_putI (pc' := 20) dX5_read_17 rfl f_5_25 h_35 rfl rfl rfl ?_
  refine e_aload_n (pc' := 21) dX5_read_20 rfl rfl ?_
  refine e_iconst (pc' := 22) dX5_read_21 rfl ?_
  refine e_putI (pc' := 25) dX5_read_22 rfl f_5_29 h_14 rfl rfl rfl ?_
  refine e_aload_n (pc' := 26) dX5_read_25 rfl rfl ?_
  refine e_iconst (pc' := 27) dX5_read_26 rfl ?_
  refine e_putI (pc' := 30) dX5_read_27 rfl f_5_34 h_14 rfl rfl rfl ?_
  refine e_iconst (pc' := 31) dX5_read_30 rfl ?_
  refine e_istore_n (pc' := 32) (L' := [some (rv 35), some (rv 14), some (iv 0)]) dX5_read_31 rfl (by decide) rfl ?_
  exact l_read_14 nn hnn hT (nn + 1) 0 0 _ rfl (by omega) (by omega) ⟨rfl, rfl, rfl, rfl, trivial, rfl, rfl, trivial, hn⟩ (by repeat (first | exact Fr.rf | assumption | (refine fr_I ?_ (by decide)) | (refine fr_J ?_ (by decide)) | (refine fr_C ?_ (by decide))))
