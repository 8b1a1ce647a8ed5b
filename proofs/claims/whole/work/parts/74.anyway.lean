/-! the reference: what would have been given anyway -/
def z15 (N : Int → Int) : Int → Int := fun j => if 35 ≤ j ∧ j < 50 then 0 else N j

set_option maxHeartbeats 4000000 in
set_option maxRecDepth 100000 in
theorem s_m_coins {X : AX} {d : Nat} {σ ρ : SG} {b : Nat} (hG : 0 ≤ ρ.1 b 6 ∧ ρ.1 b 6 ≤ 5) (hX : ScX ρ b) (hP : MrP (σ.1 89) ρ b) : Ev X 0 0 d mX11_coinsGiven 0 [some (rv 88), none, none] [] σ (QI (fun r σ' => σ' = σ ∧ r = smI (fun g => gv (ρ.1 (b + 5)) g) (ρ.1 b 6))) := by
  refine e_iconst (pc' := 1) dX11_coinsGiven_0 rfl ?_
  refine e_istore_n (pc' := 2) (L' := [some (rv 88), some (iv 0), none]) dX11_coinsGiven_1 rfl (by decide) rfl ?_
  refine e_iconst (pc' := 3) dX11_coinsGiven_2 rfl ?_
  refine e_istore_n (pc' := 4) (L' := [some (rv 88), some (iv 0), some (iv 0)]) dX11_coinsGiven_3 rfl (by decide) rfl ?_
  refine e_iload_n (pc' := 5) dX11_coinsGiven_4 rfl rfl ?_
  refine e_bipush (pc' := 7) (z := 15) dX11_coinsGiven_5 rfl (by decide) ?_
  refine e_icmpI (pc' := 10) (t := 28) dX11_coinsGiven_7 (by decide) rfl ⟨by omega, by omega⟩ ⟨by omega, by omega⟩ (fun c2_1 => absurd (show 15 ≤ (0 : Int) from c2_1) (by decide)) (fun _ => ?_)
  refine e_iload_n (pc' := 11) dX11_coinsGiven_10 rfl rfl ?_
  refine e_aload_n (pc' := 12) dX11_coinsGiven_11 rfl rfl ?_
  refine e_getR (pc' := 15) dX11_coinsGiven_12 rfl f_11_7 h_88 rfl ?_
  refine e_bipush (pc' := 17) (z := 35) dX11_coinsGiven_15 rfl (by decide) ?_
  refine e_iload_n (pc' := 18) dX11_coinsGiven_17 rfl rfl ?_
  refine e_iadd (pc' := 19) dX11_coinsGiven_18 rfl ?_
  refine e_iald (pc' := 20) (v := (ρ.1 (b + 5) 0)) dX11_coinsGiven_19 rfl h_89 (by decide) (by omega) (by omega) (hP.2.2.2 0 (by decide) (by decide)).2.2 ?_
  refine e_iadd (pc' := 21) dX11_coinsGiven_20 rfl ?_
  refine e_istore_n (pc' := 22) (L' := [some (rv 88), some (iv (0 + (ρ.1 (b + 5) 0))), some (iv 0)]) dX11_coinsGiven_21 rfl (by decide) rfl ?_
  refine e_iinc (pc' := 25) (L' := [some (rv 88), some (iv (0 + (ρ.1 (b + 5) 0))), some (iv 1)]) dX11_coinsGiven_22 rfl rfl (by decide) rfl ?_
  refine e_goto (pc' := 4) dX11_coinsGiven_25 (by decide) ?_
  refine e_iload_n (pc' := 5) dX11_coinsGiven_4 rfl rfl ?_
  refine e_bipush (pc' := 7) (z := 15) dX11_coinsGiven_5 rfl (by decide) ?_
  refine e_icmpI (pc' := 10) (t := 28) dX11_coinsGiven_7 (by decide) rfl ⟨by omega, by omega⟩ ⟨by omega, by omega⟩ (fun c2_2 => absurd (show 15 ≤ (1 : Int) from c2_2) (by decide)) (fun _ => ?_)
  refine e_iload_n (pc' := 11) dX11_coinsGiven_10 rfl rfl ?_
  refine e_aload_n (pc' := 12) dX11_coinsGiven_11 rfl rfl ?_
  refine e_getR (pc' := 15) dX11_coinsGiven_12 rfl f_11_7 h_88 rfl ?_
  refine e_bipush (pc' := 17) (z := 35) dX11_coinsGiven_15 rfl (by decide) ?_
  refine e_iload_n (pc' := 18) dX11_coinsGiven_17 rfl rfl ?_
  refine e_iadd (pc' := 19) dX11_coinsGiven_18 rfl ?_
  refine e_iald (pc' := 20) (v := (ρ.1 (b + 5) 1)) dX11_coinsGiven_19 rfl h_89 (by decide) (by omega) (by omega) (hP.2.2.2 1 (by decide) (by decide)).2.2 ?_
  refine e_iadd (pc' := 21) dX11_coinsGiven_20 rfl ?_
  refine e_istore_n (pc' := 22) (L' := [some (rv 88), some (iv ((0 + (ρ.1 (b + 5) 0)) + (ρ.1 (b + 5) 1))), some (iv 1)]) dX11_coinsGiven_21 rfl (by decide) rfl ?_
  refine e_iinc (pc' := 25) (L' := [some (rv 88), some (iv ((0 + (ρ.1 (b + 5) 0)) + (ρ.1 (b + 5) 1))), some (iv 2)]) dX11_coinsGiven_22 rfl rfl (by decide) rfl ?_
  refine e_goto (pc' := 4) dX11_coinsGiven_25 (by decide) ?_
  refine e_iload_n (pc' := 5) dX11_coinsGiven_4 rfl rfl ?_
  refine e_bipush (pc' := 7) (z := 15) dX11_coinsGiven_5 rfl (by decide) ?_
  refine e_icmpI (pc' := 10) (t := 28) dX11_coinsGiven_7 (by decide) rfl ⟨by omega, by omega⟩ ⟨by omega, by omega⟩ (fun c2_3 => absurd (show 15 ≤ (2 : Int) from c2_3) (by decide)) (fun _ => ?_)
  refine e_iload_n (pc' := 11) dX11_coinsGiven_10 rfl rfl ?_
  refine e_aload_n (pc' := 12) dX11_coinsGiven_11 rfl rfl ?_
  refine e_getR (pc' := 15) dX11_coinsGiven_12 rfl f_11_7 h_88 rfl ?_
  refine e_bipush (pc' := 17) (z := 35) dX11_coinsGiven_15 rfl (by decide) ?_
  refine e_iload_n (pc' := 18) dX11_coinsGiven_17 rfl rfl ?_
  refine e_iadd (pc' := 19) dX11_coinsGiven_18 rfl ?_
  refine e_iald (pc' := 20) (v := (ρ.1 (b + 5) 2)) dX11_coinsGiven_19 rfl h_89 (by decide) (by omega) (by omega) (hP.2.2.2 2 (by decide) (by decide)).2.2 ?_
  refine e_iadd (pc' := 21) dX11_coinsGiven_20 rfl ?_
  refine e_istore_n (pc' := 22) (L' := [some (rv 88), some (iv (((0 + (ρ.1 (b + 5) 0)) + (ρ.1 (b + 5) 1)) + (ρ.1 (b + 5) 2))), some (iv 2)]) dX11_coinsGiven_21 rfl (by decide) rfl ?_
  refine e_iinc (pc' := 25) (L' := [some (rv 88), some (iv (((0 + (ρ.1 (b + 5) 0)) + (ρ.1 (b + 5) 1)) + (ρ.1 (b + 5) 2))), some (iv 3)]) dX11_coinsGiven_22 rfl rfl (by decide) rfl ?_
  refine e_goto (pc' := 4) dX11_coinsGiven_25 (by decide) ?_
  refine e_iload_n (pc' := 5) dX11_coinsGiven_4 rfl rfl ?_
  refine e_bipush (pc' := 7) (z := 15) dX11_coinsGiven_5 rfl (by decide) ?_
  refine e_icmpI (pc' := 10) (t := 28) dX11_coinsGiven_7 (by decide) rfl ⟨by omega, by omega⟩ ⟨by omega, by omega⟩ (fun c2_4 => absurd (show 15 ≤ (3 : Int) from c2_4) (by decide)) (fun _ => ?_)
  refine e_iload_n (pc' := 11) dX11_coinsGiven_10 rfl rfl ?_
  refine e_aload_n (pc' := 12) dX11_coinsGiven_11 rfl rfl ?_
  refine e_getR (pc' := 15) dX11_coinsGiven_12 rfl f_11_7 h_88 rfl ?_
  refine e_bipush (pc' := 17) (z := 35) dX11_coinsGiven_15 rfl (by decide) ?_
  refine e_iload_n (pc' := 18) dX11_coinsGiven_17 rfl rfl ?_
  refine e_iadd (pc' := 19) dX11_coinsGiven_18 rfl ?_
  refine e_iald (pc' := 20) (v := (ρ.1 (b + 5) 3)) dX11_coinsGiven_19 rfl h_89 (by decide) (by omega) (by omega) (hP.2.2.2 3 (by decide) (by decide)).2.2 ?_
  refine e_iadd (pc' := 21) dX11_coinsGiven_20 rfl ?_
  refine e_istore_n (pc' := 22) (L' := [some (rv 88), some (iv ((((0 + (ρ.1 (b + 5) 0)) + (ρ.1 (b + 5) 1)) + (ρ.1 (b + 5) 2)) + (ρ.1 (b + 5) 3))), some (iv 3)]) dX11_coinsGiven_21 rfl (by decide) rfl ?_
  refine e_iinc (pc' := 25) (L' := [some (rv 88), some (iv ((((0 + (ρ.1 (b + 5) 0)) + (ρ.1 (b + 5) 1)) + (ρ.1 (b + 5) 2)) + (ρ.1 (b + 5) 3))), some (iv 4)]) dX11_coinsGiven_22 rfl rfl (by decide) rfl ?_
  refine e_goto (pc' := 4) dX11_coinsGiven_25 (by decide) ?_
  refine e_iload_n (pc' := 5) dX11_coinsGiven_4 rfl rfl ?_
  refine e_bipush (pc' := 7) (z := 15) dX11_coinsGiven_5 rfl (by decide) ?_
  refine e_icmpI (pc' := 10) (t := 28) dX11_coinsGiven_7 (by decide) rfl ⟨by omega, by omega⟩ ⟨by omega, by omega⟩ (fun c2_5 => absurd (show 15 ≤ (4 : Int) from c2_5) (by decide)) (fun _ => ?_)
  refine e_iload_n (pc' := 11) dX11_coinsGiven_10 rfl rfl ?_
  refine e_aload_n (pc' := 12) dX11_coinsGiven_11 rfl rfl ?_
  refine e_getR (pc' := 15) dX11_coinsGiven_12 rfl f_11_7 h_88 rfl ?_
  refine e_bipush (pc' := 17) (z := 35) dX11_coinsGiven_15 rfl (by decide) ?_
  refine e_iload_n (pc' := 18) dX11_coinsGiven_17 rfl rfl ?_
  refine e_iadd (pc' := 19) dX11_coinsGiven_18 rfl ?_
  refine e_iald (pc' := 20) (v := (ρ.1 (b + 5) 4)) dX11_coinsGiven_19 rfl h_89 (by decide) (by omega) (by omega) (hP.2.2.2 4 (by decide) (by decide)).2.2 ?_
  refine e_iadd (pc' := 21) dX11_coinsGiven_20 rfl ?_
  refine e_istore_n (pc' := 22) (L' := [some (rv 88), some (iv (((((0 + (ρ.1 (b + 5) 0)) + (ρ.1 (b + 5) 1)) + (ρ.1 (b + 5) 2)) + (ρ.1 (b + 5) 3)) + (ρ.1 (b + 5) 4))), some (iv 4)]) dX11_coinsGiven_21 rfl (by decide) rfl ?_
  refine e_iinc (pc' := 25) (L' := [some (rv 88), some (iv (((((0 + (ρ.1 (b + 5) 0)) + (ρ.1 (b + 5) 1)) + (ρ.1 (b + 5) 2)) + (ρ.1 (b + 5) 3)) + (ρ.1 (b + 5) 4))), some (iv 5)]) dX11_coinsGiven_22 rfl rfl (by decide) rfl ?_
  refine e_goto (pc' := 4) dX11_coinsGiven_25 (by decide) ?_
  refine e_iload_n (pc' := 5) dX11_coinsGiven_4 rfl rfl ?_
  refine e_bipush (pc' := 7) (z := 15) dX11_coinsGiven_5 rfl (by decide) ?_
  refine e_icmpI (pc' := 10) (t := 28) dX11_coinsGiven_7 (by decide) rfl ⟨by omega, by omega⟩ ⟨by omega, by omega⟩ (fun c2_6 => absurd (show 15 ≤ (5 : Int) from c2_6) (by decide)) (fun _ => ?_)
  refine e_iload_n (pc' := 11) dX11_coinsGiven_10 rfl rfl ?_
  refine e_aload_n (pc' := 12) dX11_coinsGiven_11 rfl rfl ?_
  refine e_getR (pc' := 15) dX11_coinsGiven_12 rfl f_11_7 h_88 rfl ?_
  refine e_bipush (pc' := 17) (z := 35) dX11_coinsGiven_15 rfl (by decide) ?_
  refine e_iload_n (pc' := 18) dX11_coinsGiven_17 rfl rfl ?_
  refine e_iadd (pc' := 19) dX11_coinsGiven_18 rfl ?_
  refine e_iald (pc' := 20) (v := (ρ.1 (b + 5) 5)) dX11_coinsGiven_19 rfl h_89 (by decide) (by omega) (by omega) (hP.2.2.2 5 (by decide) (by decide)).2.2 ?_
  refine e_iadd (pc' := 21) dX11_coinsGiven_20 rfl ?_
  refine e_istore_n (pc' := 22) (L' := [some (rv 88), some (iv ((((((0 + (ρ.1 (b + 5) 0)) + (ρ.1 (b + 5) 1)) + (ρ.1 (b + 5) 2)) + (ρ.1 (b + 5) 3)) + (ρ.1 (b + 5) 4)) + (ρ.1 (b + 5) 5))), some (iv 5)]) dX11_coinsGiven_21 rfl (by decide) rfl ?_
  refine e_iinc (pc' := 25) (L' := [some (rv 88), some (iv ((((((0 + (ρ.1 (b + 5) 0)) + (ρ.1 (b + 5) 1)) + (ρ.1 (b + 5) 2)) + (ρ.1 (b + 5) 3)) + (ρ.1 (b + 5) 4)) + (ρ.1 (b + 5) 5))), some (iv 6)]) dX11_coinsGiven_22 rfl rfl (by decide) rfl ?_
  refine e_goto (pc' := 4) dX11_coinsGiven_25 (by decide) ?_
  refine e_iload_n (pc' := 5) dX11_coinsGiven_4 rfl rfl ?_
  refine e_bipush (pc' := 7) (z := 15) dX11_coinsGiven_5 rfl (by decide) ?_
  refine e_icmpI (pc' := 10) (t := 28) dX11_coinsGiven_7 (by decide) rfl ⟨by omega, by omega⟩ ⟨by omega, by omega⟩ (fun c2_7 => absurd (show 15 ≤ (6 : Int) from c2_7) (by decide)) (fun _ => ?_)
  refine e_iload_n (pc' := 11) dX11_coinsGiven_10 rfl rfl ?_
  refine e_aload_n (pc' := 12) dX11_coinsGiven_11 rfl rfl ?_
  refine e_getR (pc' := 15) dX11_coinsGiven_12 rfl f_11_7 h_88 rfl ?_
  refine e_bipush (pc' := 17) (z := 35) dX11_coinsGiven_15 rfl (by decide) ?_
  refine e_iload_n (pc' := 18) dX11_coinsGiven_17 rfl rfl ?_
  refine e_iadd (pc' := 19) dX11_coinsGiven_18 rfl ?_
  refine e_iald (pc' := 20) (v := (ρ.1 (b + 5) 6)) dX11_coinsGiven_19 rfl h_89 (by decide) (by omega) (by omega) (hP.2.2.2 6 (by decide) (by decide)).2.2 ?_
  refine e_iadd (pc' := 21) dX11_coinsGiven_20 rfl ?_
  refine e_istore_n (pc' := 22) (L' := [some (rv 88), some (iv (((((((0 + (ρ.1 (b + 5) 0)) + (ρ.1 (b + 5) 1)) + (ρ.1 (b + 5) 2)) + (ρ.1 (b + 5) 3)) + (ρ.1 (b + 5) 4)) + (ρ.1 (b + 5) 5)) + (ρ.1 (b + 5) 6))), some (iv 6)]) dX11_coinsGiven_21 rfl (by decide) rfl ?_
  refine e_iinc (pc' := 25) (L' := [some (rv 88), some (iv (((((((0 + (ρ.1 (b + 5) 0)) + (ρ.1 (b + 5) 1)) + (ρ.1 (b + 5) 2)) + (ρ.1 (b + 5) 3)) + (ρ.1 (b + 5) 4)) + (ρ.1 (b + 5) 5)) + (ρ.1 (b + 5) 6))), some (iv 7)]) dX11_coinsGiven_22 rfl rfl (by decide) rfl ?_
  refine e_goto (pc' := 4) dX11_coinsGiven_25 (by decide) ?_
  refine e_iload_n (pc' := 5) dX11_coinsGiven_4 rfl rfl ?_
  refine e_bipush (pc' := 7) (z := 15) dX11_coinsGiven_5 rfl (by decide) ?_
  refine e_icmpI (pc' := 10) (t := 28) dX11_coinsGiven_7 (by decide) rfl ⟨by omega, by omega⟩ ⟨by omega, by omega⟩ (fun c2_8 => absurd (show 15 ≤ (7 : Int) from c2_8) (by decide)) (fun _ => ?_)
  refine e_iload_n (pc' := 11) dX11_coinsGiven_10 rfl rfl ?_
  refine e_aload_n (pc' := 12) dX11_coinsGiven_11 rfl rfl ?_
  refine e_getR (pc' := 15) dX11_coinsGiven_12 rfl f_11_7 h_88 rfl ?_
  refine e_bipush (pc' := 17) (z := 35) dX11_coinsGiven_15 rfl (by decide) ?_
  refine e_iload_n (pc' := 18) dX11_coinsGiven_17 rfl rfl ?_
  refine e_iadd (pc' := 19) dX11_coinsGiven_18 rfl ?_
  refine e_iald (pc' := 20) (v := (ρ.1 (b + 5) 7)) dX11_coinsGiven_19 rfl h_89 (by decide) (by omega) (by omega) (hP.2.2.2 7 (by decide) (by decide)).2.2 ?_
  refine e_iadd (pc' := 21) dX11_coinsGiven_20 rfl ?_
  refine e_istore_n (pc' := 22) (L' := [some (rv 88), some (iv ((((((((0 + (ρ.1 (b + 5) 0)) + (ρ.1 (b + 5) 1)) + (ρ.1 (b + 5) 2)) + (ρ.1 (b + 5) 3)) + (ρ.1 (b + 5) 4)) + (ρ.1 (b + 5) 5)) + (ρ.1 (b + 5) 6)) + (ρ.1 (b + 5) 7))), some (iv 7)]) dX11_coinsGiven_21 rfl (by decide) rfl ?_
  refine e_iinc (pc' := 25) (L' := [some (rv 88), some (iv ((((((((0 + (ρ.1 (b + 5) 0)) + (ρ.1 (b + 5) 1)) + (ρ.1 (b + 5) 2)) + (ρ.1 (b + 5) 3)) + (ρ.1 (b + 5) 4)) + (ρ.1 (b + 5) 5)) + (ρ.1 (b + 5) 6)) + (ρ.1 (b + 5) 7))), some (iv 8)]) dX11_coinsGiven_22 rfl rfl (by decide) rfl ?_
  refine e_goto (pc' := 4) dX11_coinsGiven_25 (by decide) ?_
  refine e_iload_n (pc' := 5) dX11_coinsGiven_4 rfl rfl ?_
  refine e_bipush (pc' := 7) (z := 15) dX11_coinsGiven_5 rfl (by decide) ?_
  refine e_icmpI (pc' := 10) (t := 28) dX11_coinsGiven_7 (by decide) rfl ⟨by omega, by omega⟩ ⟨by omega, by omega⟩ (fun c2_9 => absurd (show 15 ≤ (8 : Int) from c2_9) (by decide)) (fun _ => ?_)
  refine e_iload_n (pc' := 11) dX11_coinsGiven_10 rfl rfl ?_
  refine e_aload_n (pc' := 12) dX11_coinsGiven_11 rfl rfl ?_
  refine e_getR (pc' := 15) dX11_coinsGiven_12 rfl f_11_7 h_88 rfl ?_
  refine e_bipush (pc' := 17) (z := 35) dX11_coinsGiven_15 rfl (by decide) ?_
  refine e_iload_n (pc' := 18) dX11_coinsGiven_17 rfl rfl ?_
  refine e_iadd (pc' := 19) dX11_coinsGiven_18 rfl ?_
  refine e_iald (pc' := 20) (v := (ρ.1 (b + 5) 8)) dX11_coinsGiven_19 rfl h_89 (by decide) (by omega) (by omega) (hP.2.2.2 8 (by decide) (by decide)).2.2 ?_
  refine e_iadd (pc' := 21) dX11_coinsGiven_20 rfl ?_
  refine e_istore_n (pc' := 22) (L' := [some (rv 88), some (iv (((((((((0 + (ρ.1 (b + 5) 0)) + (ρ.1 (b + 5) 1)) + (ρ.1 (b + 5) 2)) + (ρ.1 (b + 5) 3)) + (ρ.1 (b + 5) 4)) + (ρ.1 (b + 5) 5)) + (ρ.1 (b + 5) 6)) + (ρ.1 (b + 5) 7)) + (ρ.1 (b + 5) 8))), some (iv 8)]) dX11_coinsGiven_21 rfl (by decide) rfl ?_
  refine e_iinc (pc' := 25) (L' := [some (rv 88), some (iv (((((((((0 + (ρ.1 (b + 5) 0)) + (ρ.1 (b + 5) 1)) + (ρ.1 (b + 5) 2)) + (ρ.1 (b + 5) 3)) + (ρ.1 (b + 5) 4)) + (ρ.1 (b + 5) 5)) + (ρ.1 (b + 5) 6)) + (ρ.1 (b + 5) 7)) + (ρ.1 (b + 5) 8))), some (iv 9)]) dX11_coinsGiven_22 rfl rfl (by decide) rfl ?_
  refine e_goto (pc' := 4) dX11_coinsGiven_25 (by decide) ?_
  refine e_iload_n (pc' := 5) dX11_coinsGiven_4 rfl rfl ?_
  refine e_bipush (pc' := 7) (z := 15) dX11_coinsGiven_5 rfl (by decide) ?_
  refine e_icmpI (pc' := 10) (t := 28) dX11_coinsGiven_7 (by decide) rfl ⟨by omega, by omega⟩ ⟨by omega, by omega⟩ (fun c2_10 => absurd (show 15 ≤ (9 : Int) from c2_10) (by decide)) (fun _ => ?_)
  refine e_iload_n (pc' := 11) dX11_coinsGiven_10 rfl rfl ?_
  refine e_aload_n (pc' := 12) dX11_coinsGiven_11 rfl rfl ?_
  refine e_getR (pc' := 15) dX11_coinsGiven_12 rfl f_11_7 h_88 rfl ?_
  refine e_bipush (pc' := 17) (z := 35) dX11_coinsGiven_15 rfl (by decide) ?_
  refine e_iload_n (pc' := 18) dX11_coinsGiven_17 rfl rfl ?_
  refine e_iadd (pc' := 19) dX11_coinsGiven_18 rfl ?_
  refine e_iald (pc' := 20) (v := (ρ.1 (b + 5) 9)) dX11_coinsGiven_19 rfl h_89 (by decide) (by omega) (by omega) (hP.2.2.2 9 (by decide) (by decide)).2.2 ?_
  refine e_iadd (pc' := 21) dX11_coinsGiven_20 rfl ?_
  refine e_istore_n (pc' := 22) (L' := [some (rv 88), some (iv ((((((((((0 + (ρ.1 (b + 5) 0)) + (ρ.1 (b + 5) 1)) + (ρ.1 (b + 5) 2)) + (ρ.1 (b + 5) 3)) + (ρ.1 (b + 5) 4)) + (ρ.1 (b + 5) 5)) + (ρ.1 (b + 5) 6)) + (ρ.1 (b + 5) 7)) + (ρ.1 (b + 5) 8)) + (ρ.1 (b + 5) 9))), some (iv 9)]) dX11_coinsGiven_21 rfl (by decide) rfl ?_
  refine e_iinc (pc' := 25) (L' := [some (rv 88), some (iv ((((((((((0 + (ρ.1 (b + 5) 0)) + (ρ.1 (b + 5) 1)) + (ρ.1 (b + 5) 2)) + (ρ.1 (b + 5) 3)) + (ρ.1 (b + 5) 4)) + (ρ.1 (b + 5) 5)) + (ρ.1 (b + 5) 6)) + (ρ.1 (b + 5) 7)) + (ρ.1 (b + 5) 8)) + (ρ.1 (b + 5) 9))), some (iv 10)]) dX11_coinsGiven_22 rfl rfl (by decide) rfl ?_
  refine e_goto (pc' := 4) dX11_coinsGiven_25 (by decide) ?_
  refine e_iload_n (pc' := 5) dX11_coinsGiven_4 rfl rfl ?_
  refine e_bipush (pc' := 7) (z := 15) dX11_coinsGiven_5 rfl (by decide) ?_
  refine e_icmpI (pc' := 10) (t := 28) dX11_coinsGiven_7 (by decide) rfl ⟨by omega, by omega⟩ ⟨by omega, by omega⟩ (fun c2_11 => absurd (show 15 ≤ (10 : Int) from c2_11) (by decide)) (fun _ => ?_)
  refine e_iload_n (pc' := 11) dX11_coinsGiven_10 rfl rfl ?_
  refine e_aload_n (pc' := 12) dX11_coinsGiven_11 rfl rfl ?_
  refine e_getR (pc' := 15) dX11_coinsGiven_12 rfl f_11_7 h_88 rfl ?_
  refine e_bipush (pc' := 17) (z := 35) dX11_coinsGiven_15 rfl (by decide) ?_
  refine e_iload_n (pc' := 18) dX11_coinsGiven_17 rfl rfl ?_
  refine e_iadd (pc' := 19) dX11_coinsGiven_18 rfl ?_
  refine e_iald (pc' := 20) (v := (ρ.1 (b + 5) 10)) dX11_coinsGiven_19 rfl h_89 (by decide) (by omega) (by omega) (hP.2.2.2 10 (by decide) (by decide)).2.2 ?_
  refine e_iadd (pc' := 21) dX11_coinsGiven_20 rfl ?_
  refine e_istore_n (pc' := 22) (L' := [some (rv 88), some (iv (((((((((((0 + (ρ.1 (b + 5) 0)) + (ρ.1 (b + 5) 1)) + (ρ.1 (b + 5) 2)) + (ρ.1 (b + 5) 3)) + (ρ.1 (b + 5) 4)) + (ρ.1 (b + 5) 5)) + (ρ.1 (b + 5) 6)) + (ρ.1 (b + 5) 7)) + (ρ.1 (b + 5) 8)) + (ρ.1 (b + 5) 9)) + (ρ.1 (b + 5) 10))), some (iv 10)]) dX11_coinsGiven_21 rfl (by decide) rfl ?_
  refine e_iinc (pc' := 25) (L' := [some (rv 88), some (iv (((((((((((0 + (ρ.1 (b + 5) 0)) + (ρ.1 (b + 5) 1)) + (ρ.1 (b + 5) 2)) + (ρ.1 (b + 5) 3)) + (ρ.1 (b + 5) 4)) + (ρ.1 (b + 5) 5)) + (ρ.1 (b + 5) 6)) + (ρ.1 (b + 5) 7)) + (ρ.1 (b + 5) 8)) + (ρ.1 (b + 5) 9)) + (ρ.1 (b + 5) 10))), some (iv 11)]) dX11_coinsGiven_22 rfl rfl (by decide) rfl ?_
  refine e_goto (pc' := 4) dX11_coinsGiven_25 (by decide) ?_
  refine e_iload_n (pc' := 5) dX11_coinsGiven_4 rfl rfl ?_
  refine e_bipush (pc' := 7) (z := 15) dX11_coinsGiven_5 rfl (by decide) ?_
  refine e_icmpI (pc' := 10) (t := 28) dX11_coinsGiven_7 (by decide) rfl ⟨by omega, by omega⟩ ⟨by omega, by omega⟩ (fun c2_12 => absurd (show 15 ≤ (11 : Int) from c2_12) (by decide)) (fun _ => ?_)
  refine e_iload_n (pc' := 11) dX11_coinsGiven_10 rfl rfl ?_
  refine e_aload_n (pc' := 12) dX11_coinsGiven_11 rfl rfl ?_
  refine e_getR (pc' := 15) dX11_coinsGiven_12 rfl f_11_7 h_88 rfl ?_
  refine e_bipush (pc' := 17) (z := 35) dX11_coinsGiven_15 rfl (by decide) ?_
  refine e_iload_n (pc' := 18) dX11_coinsGiven_17 rfl rfl ?_
  refine e_iadd (pc' := 19) dX11_coinsGiven_18 rfl ?_
  refine e_iald (pc' := 20) (v := (ρ.1 (b + 5) 11)) dX11_coinsGiven_19 rfl h_89 (by decide) (by omega) (by omega) (hP.2.2.2 11 (by decide) (by decide)).2.2 ?_
  refine e_iadd (pc' := 21) dX11_coinsGiven_20 rfl ?_
  refine e_istore_n (pc' := 22) (L' := [some (rv 88), some (iv ((((((((((((0 + (ρ.1 (b + 5) 0)) + (ρ.1 (b + 5) 1)) + (ρ.1 (b + 5) 2)) + (ρ.1 (b + 5) 3)) + (ρ.1 (b + 5) 4)) + (ρ.1 (b + 5) 5)) + (ρ.1 (b + 5) 6)) + (ρ.1 (b + 5) 7)) + (ρ.1 (b + 5) 8)) + (ρ.1 (b + 5) 9)) + (ρ.1 (b + 5) 10)) + (ρ.1 (b + 5) 11))), some (iv 11)]) dX11_coinsGiven_21 rfl (by decide) rfl ?_
  refine e_iinc (pc' := 25) (L' := [some (rv 88), some (iv ((((((((((((0 + (ρ.1 (b + 5) 0)) + (ρ.1 (b + 5) 1)) + (ρ.1 (b + 5) 2)) + (ρ.1 (b + 5) 3)) + (ρ.1 (b + 5) 4)) + (ρ.1 (b + 5) 5)) + (ρ.1 (b + 5) 6)) + (ρ.1 (b + 5) 7)) + (ρ.1 (b + 5) 8)) + (ρ.1 (b + 5) 9)) + (ρ.1 (b + 5) 10)) + (ρ.1 (b + 5) 11))), some (iv 12)]) dX11_coinsGiven_22 rfl rfl (by decide) rfl ?_
  refine e_goto (pc' := 4) dX11_coinsGiven_25 (by decide) ?_
  refine e_iload_n (pc' := 5) dX11_coinsGiven_4 rfl rfl ?_
  refine e_bipush (pc' := 7) (z := 15) dX11_coinsGiven_5 rfl (by decide) ?_
  refine e_icmpI (pc' := 10) (t := 28) dX11_coinsGiven_7 (by decide) rfl ⟨by omega, by omega⟩ ⟨by omega, by omega⟩ (fun c2_13 => absurd (show 15 ≤ (12 : Int) from c2_13) (by decide)) (fun _ => ?_)
  refine e_iload_n (pc' := 11) dX11_coinsGiven_10 rfl rfl ?_
  refine e_aload_n (pc' := 12) dX11_coinsGiven_11 rfl rfl ?_
  refine e_getR (pc' := 15) dX11_coinsGiven_12 rfl f_11_7 h_88 rfl ?_
  refine e_bipush (pc' := 17) (z := 35) dX11_coinsGiven_15 rfl (by decide) ?_
  refine e_iload_n (pc' := 18) dX11_coinsGiven_17 rfl rfl ?_
  refine e_iadd (pc' := 19) dX11_coinsGiven_18 rfl ?_
  refine e_iald (pc' := 20) (v := (ρ.1 (b + 5) 12)) dX11_coinsGiven_19 rfl h_89 (by decide) (by omega) (by omega) (hP.2.2.2 12 (by decide) (by decide)).2.2 ?_
  refine e_iadd (pc' := 21) dX11_coinsGiven_20 rfl ?_
  refine e_istore_n (pc' := 22) (L' := [some (rv 88), some (iv (((((((((((((0 + (ρ.1 (b + 5) 0)) + (ρ.1 (b + 5) 1)) + (ρ.1 (b + 5) 2)) + (ρ.1 (b + 5) 3)) + (ρ.1 (b + 5) 4)) + (ρ.1 (b + 5) 5)) + (ρ.1 (b + 5) 6)) + (ρ.1 (b + 5) 7)) + (ρ.1 (b + 5) 8)) + (ρ.1 (b + 5) 9)) + (ρ.1 (b + 5) 10)) + (ρ.1 (b + 5) 11)) + (ρ.1 (b + 5) 12))), some (iv 12)]) dX11_coinsGiven_21 rfl (by decide) rfl ?_
  refine e_iinc (pc' := 25) (L' := [some (rv 88), some (iv (((((((((((((0 + (ρ.1 (b + 5) 0)) + (ρ.1 (b + 5) 1)) + (ρ.1 (b + 5) 2)) + (ρ.1 (b + 5) 3)) + (ρ.1 (b + 5) 4)) + (ρ.1 (b + 5) 5)) + (ρ.1 (b + 5) 6)) + (ρ.1 (b + 5) 7)) + (ρ.1 (b + 5) 8)) + (ρ.1 (b + 5) 9)) + (ρ.1 (b + 5) 10)) + (ρ.1 (b + 5) 11)) + (ρ.1 (b + 5) 12))), some (iv 13)]) dX11_coinsGiven_22 rfl rfl (by decide) rfl ?_
  refine e_goto (pc' := 4) dX11_coinsGiven_25 (by decide) ?_
  refine e_iload_n (pc' := 5) dX11_coinsGiven_4 rfl rfl ?_
  refine e_bipush (pc' := 7) (z := 15) dX11_coinsGiven_5 rfl (by decide) ?_
  refine e_icmpI (pc' := 10) (t := 28) dX11_coinsGiven_7 (by decide) rfl ⟨by omega, by omega⟩ ⟨by omega, by omega⟩ (fun c2_14 => absurd (show 15 ≤ (13 : Int) from c2_14) (by decide)) (fun _ => ?_)
  refine e_iload_n (pc' := 11) dX11_coinsGiven_10 rfl rfl ?_
  refine e_aload_n (pc' := 12) dX11_coinsGiven_11 rfl rfl ?_
  refine e_getR (pc' := 15) dX11_coinsGiven_12 rfl f_11_7 h_88 rfl ?_
  refine e_bipush (pc' := 17) (z := 35) dX11_coinsGiven_15 rfl (by decide) ?_
  refine e_iload_n (pc' := 18) dX11_coinsGiven_17 rfl rfl ?_
  refine e_iadd (pc' := 19) dX11_coinsGiven_18 rfl ?_
  refine e_iald (pc' := 20) (v := (ρ.1 (b + 5) 13)) dX11_coinsGiven_19 rfl h_89 (by decide) (by omega) (by omega) (hP.2.2.2 13 (by decide) (by decide)).2.2 ?_
  refine e_iadd (pc' := 21) dX11_coinsGiven_20 rfl ?_
  refine e_istore_n (pc' := 22) (L' := [some (rv 88), some (iv ((((((((((((((0 + (ρ.1 (b + 5) 0)) + (ρ.1 (b + 5) 1)) + (ρ.1 (b + 5) 2)) + (ρ.1 (b + 5) 3)) + (ρ.1 (b + 5) 4)) + (ρ.1 (b + 5) 5)) + (ρ.1 (b + 5) 6)) + (ρ.1 (b + 5) 7)) + (ρ.1 (b + 5) 8)) + (ρ.1 (b + 5) 9)) + (ρ.1 (b + 5) 10)) + (ρ.1 (b + 5) 11)) + (ρ.1 (b + 5) 12)) + (ρ.1 (b + 5) 13))), some (iv 13)]) dX11_coinsGiven_21 rfl (by decide) rfl ?_
  refine e_iinc (pc' := 25) (L' := [some (rv 88), some (iv ((((((((((((((0 + (ρ.1 (b + 5) 0)) + (ρ.1 (b + 5) 1)) + (ρ.1 (b + 5) 2)) + (ρ.1 (b + 5) 3)) + (ρ.1 (b + 5) 4)) + (ρ.1 (b + 5) 5)) + (ρ.1 (b + 5) 6)) + (ρ.1 (b + 5) 7)) + (ρ.1 (b + 5) 8)) + (ρ.1 (b + 5) 9)) + (ρ.1 (b + 5) 10)) + (ρ.1 (b + 5) 11)) + (ρ.1 (b + 5) 12)) + (ρ.1 (b + 5) 13))), some (iv 14)]) dX11_coinsGiven_22 rfl rfl (by decide) rfl ?_
  refine e_goto (pc' := 4) dX11_coinsGiven_25 (by decide) ?_
  refine e_iload_n (pc' := 5) dX11_coinsGiven_4 rfl rfl ?_
  refine e_bipush (pc' := 7) (z := 15) dX11_coinsGiven_5 rfl (by decide) ?_
  refine e_icmpI (pc' := 10) (t := 28) dX11_coinsGiven_7 (by decide) rfl ⟨by omega, by omega⟩ ⟨by omega, by omega⟩ (fun c2_15 => absurd (show 15 ≤ (14 : Int) from c2_15) (by decide)) (fun _ => ?_)
  refine e_iload_n (pc' := 11) dX11_coinsGiven_10 rfl rfl ?_
  refine e_aload_n (pc' := 12) dX11_coinsGiven_11 rfl rfl ?_
  refine e_getR (pc' := 15) dX11_coinsGiven_12 rfl f_11_7 h_88 rfl ?_
  refine e_bipush (pc' := 17) (z := 35) dX11_coinsGiven_15 rfl (by decide) ?_
  refine e_iload_n (pc' := 18) dX11_coinsGiven_17 rfl rfl ?_
  refine e_iadd (pc' := 19) dX11_coinsGiven_18 rfl ?_
  refine e_iald (pc' := 20) (v := (ρ.1 (b + 5) 14)) dX11_coinsGiven_19 rfl h_89 (by decide) (by omega) (by omega) (hP.2.2.2 14 (by decide) (by decide)).2.2 ?_
  refine e_iadd (pc' := 21) dX11_coinsGiven_20 rfl ?_
  refine e_istore_n (pc' := 22) (L' := [some (rv 88), some (iv (((((((((((((((0 + (ρ.1 (b + 5) 0)) + (ρ.1 (b + 5) 1)) + (ρ.1 (b + 5) 2)) + (ρ.1 (b + 5) 3)) + (ρ.1 (b + 5) 4)) + (ρ.1 (b + 5) 5)) + (ρ.1 (b + 5) 6)) + (ρ.1 (b + 5) 7)) + (ρ.1 (b + 5) 8)) + (ρ.1 (b + 5) 9)) + (ρ.1 (b + 5) 10)) + (ρ.1 (b + 5) 11)) + (ρ.1 (b + 5) 12)) + (ρ.1 (b + 5) 13)) + (ρ.1 (b + 5) 14))), some (iv 14)]) dX11_coinsGiven_21 rfl (by decide) rfl ?_
  refine e_iinc (pc' := 25) (L' := [some (rv 88), some (iv (((((((((((((((0 + (ρ.1 (b + 5) 0)) + (ρ.1 (b + 5) 1)) + (ρ.1 (b + 5) 2)) + (ρ.1 (b + 5) 3)) + (ρ.1 (b + 5) 4)) + (ρ.1 (b + 5) 5)) + (ρ.1 (b + 5) 6)) + (ρ.1 (b + 5) 7)) + (ρ.1 (b + 5) 8)) + (ρ.1 (b + 5) 9)) + (ρ.1 (b + 5) 10)) + (ρ.1 (b + 5) 11)) + (ρ.1 (b + 5) 12)) + (ρ.1 (b + 5) 13)) + (ρ.1 (b + 5) 14))), some (iv 15)]) dX11_coinsGiven_22 rfl rfl (by decide) rfl ?_
  refine e_goto (pc' := 4) dX11_coinsGiven_25 (by decide) ?_
  refine e_iload_n (pc' := 5) dX11_coinsGiven_4 rfl rfl ?_
  refine e_bipush (pc' := 7) (z := 15) dX11_coinsGiven_5 rfl (by decide) ?_
  refine e_icmpI (pc' := 10) (t := 28) dX11_coinsGiven_7 (by decide) rfl ⟨by omega, by omega⟩ ⟨by omega, by omega⟩ (fun _ => ?_) (fun c2_16 => absurd (show 15 ≤ (15 : Int) by decide) c2_16)
  refine e_iload_n (pc' := 29) dX11_coinsGiven_28 rfl rfl ?_
  exact e_iret dX11_coinsGiven_29 rfl ⟨rfl, Nat.le_refl _⟩ ⟨_, rfl, rfl, by rw [sm_5 (u := fun g => gv (ρ.1 (b + 5)) g) hG (fun _ _ _ => rfl) (fun g a c => by unfold gv; rw [hX.1 g 0 (by omega) c (by decide) (by decide) (Or.inr a), hX.1 g 1 (by omega) c (by decide) (by decide) (Or.inr a), hX.1 g 2 (by omega) c (by decide) (by decide) (Or.inr a)]; rfl)]; unfold gv; simp only [Int.reduceMul, Int.reduceAdd]; omega⟩

set_option maxHeartbeats 4000000 in
set_option maxRecDepth 100000 in
theorem l_m_any2 {X : AX} {d : Nat} {σ ρ : SG} {b : Nat} (h : MdI σ ρ b) (hpl0 : σ.1 88 18 = 0) (k gv0 x3 an : Int) (hk : 0 ≤ k ∧ k ≤ 1) (τ0 : SG) (hF0 : Fr [88, 89, 92, 93, 94, 95, 96, 97, 98, 99, 101, 102, 103, 107] σ τ0) (hK0 : KA σ τ0) (hR0 : RtI τ0) (hoff : ∀ j, ¬ (35 ≤ j ∧ j < 50) → τ0.1 89 j = σ.1 89 j) (hwg : ∀ j, 0 ≤ j → j < 15 → τ0.1 107 j = σ.1 89 (35 + j)) (V : Int) (hV : V = (if k = 0 then an else gv0 - an)) : ∀ (kk : Nat) (i : Int) (τ : SG), 0 ≤ i → i ≤ 15 → 15 - i < kk → (∀ j, τ.1 89 j = if 35 + i ≤ j ∧ j < 50 then τ0.1 89 j else σ.1 89 j) → Fr [89] τ0 τ → Ev X 0 0 (d + 9) mX11_anyway 93 [some (rv 88), some (iv k), some (iv gv0), some (iv x3), some (iv an), some (iv i)] [] τ (QI (fun r σ' => r = V ∧ σ'.1 89 = σ.1 89 ∧ Fr [88, 89, 92, 93, 94, 95, 96, 97, 98, 99, 101, 102, 103, 107] σ σ' ∧ MdI σ' ρ b ∧ σ'.1 88 18 = 0)) := by
  intro kk
  induction kk with
  | zero => intros; omega
  | succ kk ih =>
  intro i τ hi0 hi1 hik hB hG1
  refine e_iload (pc' := 95) dX11_anyway_93 rfl rfl ?_
  refine e_bipush (pc' := 97) (z := 15) dX11_anyway_95 rfl (by decide) ?_
  refine e_icmpI (pc' := 100) (t := 123) dX11_anyway_97 (by decide) rfl ⟨by omega, by omega⟩ ⟨by omega, by omega⟩ (fun (c2_1 : 15 ≤ (i : Int)) => ?_) (fun (c2_1 : ¬ (15 ≤ (i : Int))) => ?_)
  · have hNb : τ.1 89 = σ.1 89 := funext fun j => by rw [hB j, if_neg (by omega)]
    have hFt : Fr [88, 89, 92, 93, 94, 95, 96, 97, 98, 99, 101, 102, 103, 107] σ τ := hF0.tr (hG1.mono (by decide))
    have hKt : KA τ0 τ := by have e := (hG1 88 (by decide)).1; unfold KA; rw [e]; exact ⟨rfl, rfl, rfl⟩
    have hMt : MdI τ ρ b := h.fr hNb (hFt 100 (by decide)).1 (hK0.tr hKt) (RtI.fr hR0 (hG1 96 (by decide)).2)
    have h18 : τ.1 88 18 = 0 := (hK0.tr hKt).1.trans hpl0
    refine e_iload_n (pc' := 124) dX11_anyway_123 rfl rfl ?_
    refine e_ifI (pc' := 127) (t := 132) dX11_anyway_124 (by decide) rfl ⟨by omega, by omega⟩ (fun (c4_2 : (k : Int) ≠ 0) => ?_) (fun (c4_2 : ¬ ((k : Int) ≠ 0)) => ?_)
    · refine e_iload_n (pc' := 133) dX11_anyway_132 rfl rfl ?_
      refine e_iload (pc' := 135) dX11_anyway_133 rfl rfl ?_
      refine e_isub (pc' := 136) dX11_anyway_135 rfl ?_
      exact e_iret dX11_anyway_136 rfl ⟨rfl, Nat.le_refl _⟩ ⟨_, rfl, by rw [hV]; first | rw [if_pos (by omega)] | rw [if_neg (by omega)], hNb, hFt, hMt, h18⟩
    · refine e_iload (pc' := 129) dX11_anyway_127 rfl rfl ?_
      refine e_goto (pc' := 136) dX11_anyway_129 (by decide) ?_
      exact e_iret dX11_anyway_136 rfl ⟨rfl, Nat.le_refl _⟩ ⟨_, rfl, by rw [hV]; first | rw [if_pos (by omega)] | rw [if_neg (by omega)], hNb, hFt, hMt, h18⟩
  · refine e_aload_n (pc' := 101) dX11_anyway_100 rfl rfl ?_
    refine e_getR (pc' := 104) dX11_anyway_101 rfl f_11_7 h_88 rfl ?_
    refine e_bipush (pc' := 106) (z := 35) dX11_anyway_104 rfl (by decide) ?_
    refine e_iload (pc' := 108) dX11_anyway_106 rfl rfl ?_
    refine e_iadd (pc' := 109) dX11_anyway_108 rfl ?_
    refine e_aload_n (pc' := 110) dX11_anyway_109 rfl rfl ?_
    refine e_getR (pc' := 113) dX11_anyway_110 rfl f_11_73 h_88 rfl ?_
    refine e_iload (pc' := 115) dX11_anyway_113 rfl rfl ?_
    refine e_iald (pc' := 116) (v := (σ.1 89 (35 + i))) dX11_anyway_115 rfl h_107 (by decide) (by omega) (by omega) ((congrFun (hG1 107 (by decide)).1 i).trans (hwg i (by omega) (by omega))) ?_
    refine e_iast (pc' := 117) dX11_anyway_116 rfl h_89 (by decide) (by omega) (by omega) ?_
    refine e_iinc (pc' := 120) (L' := [some (rv 88), some (iv k), some (iv gv0), some (iv x3), some (iv an), some (iv (i + 1))]) dX11_anyway_117 rfl rfl (by decide) rfl ?_
    refine e_goto (pc' := 93) dX11_anyway_120 (by decide) ?_
    refine ih (i + 1) (upI τ 89 (35 + i) (σ.1 89 (35 + i))) (by omega) (by omega) (by omega) (fun j => ?_) (fr_I hG1 (by decide))
    by_cases hj : j = 35 + i
    · rw [hj, if_neg (by omega)]
      exact (if_pos ⟨rfl, rfl⟩)
    · refine (if_neg (fun q => hj q.2) : (upI τ 89 (35 + i) (σ.1 89 (35 + i))).1 89 j = τ.1 89 j).trans ?_
      rw [hB j]
      by_cases q : 35 + i ≤ j ∧ j < 50
      · rw [if_pos q, if_pos (by omega)]
      · rw [if_neg q, if_neg (by omega)]

theorem hFp2 {σ τ : SG} (hF : Fr [89, 107] σ τ) : τ.2 96 = σ.2 96 := (hF 96 (by decide)).2

set_option maxHeartbeats 4000000 in
set_option maxRecDepth 100000 in
theorem l_m_any1 {X : AX} {d : Nat} {σ ρ : SG} {b : Nat} (h : MdI σ ρ b) (hpl0 : σ.1 88 18 = 0) (π : SG) (c : Nat) (hoπ : ScOK π c) (hXπ : ScX π c) (hPπ : MrP (z15 (σ.1 89)) π c) (hzπ : ∀ t, tlR π c t = 0) (hh : Int → Int64) (htr : (trS π c hh).1.1 c 6 = π.1 c 6) (k x3 : Int) (hk : 0 ≤ k ∧ k ≤ 1) (τ : SG) (hN : τ.1 89 = z15 (σ.1 89)) (hwg : ∀ j, 0 ≤ j → j < 15 → τ.1 107 j = σ.1 89 (35 + j)) (hF : Fr [89, 107] σ τ) : Ev X 0 0 (d + 9) mX11_anyway 58 [some (rv 88), some (iv k), some (iv (smI (fun g => gv (ρ.1 (b + 5)) g) (ρ.1 b 6))), some (iv x3), none, none] [] τ (QI (fun r σ' => r = (if k = 0 then smI (fun g => gv ((trS π c hh).1.1 (c + 5)) g) (π.1 c 6) else smI (fun g => gv (ρ.1 (b + 5)) g) (ρ.1 b 6) - smI (fun g => gv ((trS π c hh).1.1 (c + 5)) g) (π.1 c 6)) ∧ σ'.1 89 = σ.1 89 ∧ Fr [88, 89, 92, 93, 94, 95, 96, 97, 98, 99, 101, 102, 103, 107] σ σ' ∧ MdI σ' ρ b ∧ σ'.1 88 18 = 0)) := by
  refine e_aload_n (pc' := 59) dX11_anyway_58 rfl rfl ?_
  refine e_iconst (pc' := 60) dX11_anyway_59 rfl ?_
  refine e_putI (pc' := 63) dX11_anyway_60 rfl f_11_193 h_88 rfl rfl rfl ?_
  have hK0' : ((upI τ 88 18 1)).1 88 19 = -1 ∧ ((upI τ 88 18 1)).1 88 20 = -1 := by
    have q : τ.1 88 = σ.1 88 := (hF 88 (by decide)).1
    refine ⟨?_, ?_⟩
    · show τ.1 88 19 = -1; rw [q]; exact h.2.2.2.2.1.1
    · show τ.1 88 20 = -1; rw [q]; exact h.2.2.2.2.1.2
  have hFp : Fr [88, 89, 92, 93, 94, 95, 96, 97, 98, 99, 101, 102, 103, 107] σ (upI τ 88 18 1) := fr_I (hF.mono (by decide)) (by decide)
  have hM0 : MdI (upI τ 88 18 1) π c := ⟨hoπ, hXπ, by rw [show ((upI τ 88 18 1)).1 89 = z15 (σ.1 89) from hN]; exact hPπ, Or.inl ⟨rfl, hzπ⟩, hK0', by rw [show ((upI τ 88 18 1)).1 89 = z15 (σ.1 89) from hN, show z15 (σ.1 89) 55 = σ.1 89 55 from if_neg (by omega)]; exact h.2.2.2.2.2.1, RtI.fr (σ := σ) h.2.2.2.2.2.2.1 (hFp2 (τ := τ) hF), by rw [show ((upI τ 88 18 1)).1 100 = σ.1 100 from (hF 100 (by decide)).1]; exact h.2.2.2.2.2.2.2⟩
  refine e_aload_n (pc' := 64) dX11_anyway_63 rfl rfl ?_
  refine e_cv0i (pc' := 67) dX11_anyway_64 rfl k_11_76 h_88 rfl (Nat.le_of_ble_eq_true rfl) rfl rfl ⟨rfl, rfl⟩ ⟨Nat.zero_le _, Nat.zero_le _⟩ s_m_givers ?_
  intro r σ' hr
  have hv : r = π.1 c 6 := hr.2.trans hM0.2.2.1.1.1
  rw [hr.1, hv]; clear hr hv
  refine e_ifI (pc' := 70) (t := 74) dX11_anyway_67 (by decide) rfl (by first | exact ⟨by omega, by omega⟩ | (have q := hoπ.1; exact ⟨by omega, by omega⟩)) (fun (c2_1 : ((π.1 c 6) : Int) ≠ 0) => ?_) (fun (c2_1 : ¬ (((π.1 c 6) : Int) ≠ 0)) => ?_)
  · refine e_aload_n (pc' := 75) dX11_anyway_74 rfl rfl ?_
    refine e_cv0i (pc' := 78) dX11_anyway_75 rfl k_11_233 h_88 rfl (Nat.le_of_ble_eq_true rfl) rfl rfl ⟨rfl, rfl⟩ ⟨Nat.zero_le _, Nat.zero_le _⟩ (s_m_goByTurns hM0 hh) ?_
    rintro z τ1 ⟨hz, hM1, hF1, hK1⟩
    have hf1 : Fr [88, 89, 92, 93, 94, 95, 96, 97, 98, 99, 101, 102, 103, 107] σ τ1 := hFp.tr (hF1.mono (by decide))
    refine e_istore_n (pc' := 79) (L' := [some (rv 88), some (iv k), some (iv (smI (fun g => gv (ρ.1 (b + 5)) g) (ρ.1 b 6))), some (iv z), none, none]) dX11_anyway_78 rfl (by decide) rfl ?_
    refine e_aload_n (pc' := 80) dX11_anyway_79 rfl rfl ?_
    refine e_iconst (pc' := 81) dX11_anyway_80 rfl ?_
    refine e_putI (pc' := 84) dX11_anyway_81 rfl f_11_193 h_88 rfl rfl rfl ?_
    refine e_aload_n (pc' := 85) dX11_anyway_84 rfl rfl ?_
    refine e_cv0i (pc' := 88) dX11_anyway_85 rfl k_11_245 h_88 rfl (Nat.le_of_ble_eq_true rfl) rfl rfl ⟨rfl, rfl⟩ ⟨Nat.zero_le _, Nat.zero_le _⟩ (s_m_coins (by rw [htr]; exact hoπ.1) hM1.2.1 hM1.2.2.1) ?_
    intro r σ' hr; rw [hr.1, hr.2, htr]; clear hr
    refine e_istore (pc' := 90) (L' := [some (rv 88), some (iv k), some (iv (smI (fun g => gv (ρ.1 (b + 5)) g) (ρ.1 b 6))), some (iv z), some (iv (smI (fun g => gv ((trS π c hh).1.1 (c + 5)) g) (π.1 c 6))), none]) dX11_anyway_88 rfl (by decide) rfl ?_
    refine e_iconst (pc' := 91) dX11_anyway_90 rfl ?_
    refine e_istore (pc' := 93) (L' := [some (rv 88), some (iv k), some (iv (smI (fun g => gv (ρ.1 (b + 5)) g) (ρ.1 b 6))), some (iv z), some (iv (smI (fun g => gv ((trS π c hh).1.1 (c + 5)) g) (π.1 c 6))), some (iv 0)]) dX11_anyway_91 rfl (by decide) rfl ?_
    refine l_m_any2 h hpl0 k (smI (fun g => gv (ρ.1 (b + 5)) g) (ρ.1 b 6)) _ (smI (fun g => gv ((trS π c hh).1.1 (c + 5)) g) (π.1 c 6)) hk (upI τ1 88 18 0) ?_ ?_ ?_ ?_ ?_ _ rfl 16 0 (upI τ1 88 18 0) (by decide) (by decide) (by decide) (fun j => ?_) Fr.rf
    · exact fr_I hf1 (by decide)
    · refine ⟨?_, ?_, ?_⟩
      · exact hpl0.symm
      · show τ1.1 88 19 = σ.1 88 19; rw [hK1.1.2.1, h.2.2.2.2.1.1]; exact hK0'.1
      · show τ1.1 88 20 = σ.1 88 20; rw [hK1.1.2.2, h.2.2.2.2.1.2]; exact hK0'.2
    · exact RtI.fr (σ := τ1) hM1.2.2.2.2.2.2.1 rfl
    · intro j hj
      show τ1.1 89 j = _
      rw [hK1.2 j hj]
      show τ.1 89 j = _
      rw [hN]
      exact if_neg hj
    · intro j p q
      show τ1.1 107 j = _
      rw [(hF1 107 (by decide)).1]
      exact hwg j p q
    · by_cases q : 35 + 0 ≤ j ∧ j < 50
      · rw [if_pos q]
      · rw [if_neg q]
        show τ1.1 89 j = _
        rw [hK1.2 j (by omega)]
        show τ.1 89 j = _
        rw [hN]
        exact if_neg (by omega)
  · refine e_iconst (pc' := 71) dX11_anyway_70 rfl ?_
    refine e_goto (pc' := 78) dX11_anyway_71 (by decide) ?_
    refine e_istore_n (pc' := 79) (L' := [some (rv 88), some (iv k), some (iv (smI (fun g => gv (ρ.1 (b + 5)) g) (ρ.1 b 6))), some (iv 0), none, none]) dX11_anyway_78 rfl (by decide) rfl ?_
    refine e_aload_n (pc' := 80) dX11_anyway_79 rfl rfl ?_
    refine e_iconst (pc' := 81) dX11_anyway_80 rfl ?_
    refine e_putI (pc' := 84) dX11_anyway_81 rfl f_11_193 h_88 rfl rfl rfl ?_
    refine e_aload_n (pc' := 85) dX11_anyway_84 rfl rfl ?_
    refine e_cv0i (pc' := 88) dX11_anyway_85 rfl k_11_245 h_88 rfl (Nat.le_of_ble_eq_true rfl) rfl rfl ⟨rfl, rfl⟩ ⟨Nat.zero_le _, Nat.zero_le _⟩ (s_m_coins (ρ := π) (b := c) hoπ.1 hXπ hM0.2.2.1) ?_
    intro r σ' hr; rw [hr.1, hr.2, show smI (fun g => gv (π.1 (c + 5)) g) (π.1 c 6) = smI (fun g => gv ((trS π c hh).1.1 (c + 5)) g) (π.1 c 6) by rw [show π.1 c 6 = 0 by omega]; rfl]; clear hr
    refine e_istore (pc' := 90) (L' := [some (rv 88), some (iv k), some (iv (smI (fun g => gv (ρ.1 (b + 5)) g) (ρ.1 b 6))), some (iv 0), some (iv (smI (fun g => gv ((trS π c hh).1.1 (c + 5)) g) (π.1 c 6))), none]) dX11_anyway_88 rfl (by decide) rfl ?_
    refine e_iconst (pc' := 91) dX11_anyway_90 rfl ?_
    refine e_istore (pc' := 93) (L' := [some (rv 88), some (iv k), some (iv (smI (fun g => gv (ρ.1 (b + 5)) g) (ρ.1 b 6))), some (iv 0), some (iv (smI (fun g => gv ((trS π c hh).1.1 (c + 5)) g) (π.1 c 6))), some (iv 0)]) dX11_anyway_91 rfl (by decide) rfl ?_
    refine l_m_any2 h hpl0 k (smI (fun g => gv (ρ.1 (b + 5)) g) (ρ.1 b 6)) _ (smI (fun g => gv ((trS π c hh).1.1 (c + 5)) g) (π.1 c 6)) hk (upI (upI τ 88 18 1) 88 18 0) ?_ ?_ ?_ ?_ ?_ _ rfl 16 0 (upI (upI τ 88 18 1) 88 18 0) (by decide) (by decide) (by decide) (fun j => ?_) Fr.rf
    · exact fr_I hFp (by decide)
    · refine ⟨?_, ?_, ?_⟩
      · exact hpl0.symm
      · show τ.1 88 19 = σ.1 88 19; rw [(hF 88 (by decide)).1]
      · show τ.1 88 20 = σ.1 88 20; rw [(hF 88 (by decide)).1]
    · exact RtI.fr (σ := σ) h.2.2.2.2.2.2.1 (hFp2 (τ := τ) hF)
    · intro j hj
      show τ.1 89 j = _
      rw [hN]
      exact if_neg hj
    · exact hwg
    · by_cases q : 35 + 0 ≤ j ∧ j < 50
      · rw [if_pos q]
      · rw [if_neg q]
        show τ.1 89 j = _
        rw [hN]
        exact if_neg (by omega)

set_option maxHeartbeats 4000000 in
set_option maxRecDepth 100000 in
theorem l_m_any0 {X : AX} {d : Nat} {σ ρ : SG} {b : Nat} (h : MdI σ ρ b) (hpl0 : σ.1 88 18 = 0) (π : SG) (c : Nat) (hoπ : ScOK π c) (hXπ : ScX π c) (hPπ : MrP (z15 (σ.1 89)) π c) (hzπ : ∀ t, tlR π c t = 0) (hh : Int → Int64) (htr : (trS π c hh).1.1 c 6 = π.1 c 6) (k : Int) (hk : 0 ≤ k ∧ k ≤ 1) : ∀ (kk : Nat) (i : Int) (τ : SG), 0 ≤ i → i ≤ 15 → 15 - i < kk → ((∀ j, τ.1 89 j = if 35 ≤ j ∧ j < 35 + i then 0 else σ.1 89 j) ∧ (∀ j, 0 ≤ j → j < i → τ.1 107 j = σ.1 89 (35 + j)) ∧ Fr [89, 107] σ τ) → Ev X 0 0 (d + 9) mX11_anyway 21 [some (rv 88), some (iv k), some (iv (smI (fun g => gv (ρ.1 (b + 5)) g) (ρ.1 b 6))), some (iv i), none, none] [] τ (QI (fun r σ' => r = (if k = 0 then smI (fun g => gv ((trS π c hh).1.1 (c + 5)) g) (π.1 c 6) else smI (fun g => gv (ρ.1 (b + 5)) g) (ρ.1 b 6) - smI (fun g => gv ((trS π c hh).1.1 (c + 5)) g) (π.1 c 6)) ∧ σ'.1 89 = σ.1 89 ∧ Fr [88, 89, 92, 93, 94, 95, 96, 97, 98, 99, 101, 102, 103, 107] σ σ' ∧ MdI σ' ρ b ∧ σ'.1 88 18 = 0)) := by
  intro kk
  induction kk with
  | zero => intros; omega
  | succ kk ih =>
  intro i τ hi0 hi1 hik hI
  refine e_iload_n (pc' := 22) dX11_anyway_21 rfl rfl ?_
  refine e_bipush (pc' := 24) (z := 15) dX11_anyway_22 rfl (by decide) ?_
  refine e_icmpI (pc' := 27) (t := 58) dX11_anyway_24 (by decide) rfl ⟨by omega, by omega⟩ ⟨by omega, by omega⟩ (fun (c2_1 : 15 ≤ (i : Int)) => ?_) (fun (c2_1 : ¬ (15 ≤ (i : Int))) => ?_)
  · exact l_m_any1 h hpl0 π c hoπ hXπ hPπ hzπ hh htr k i hk τ (funext fun j => by rw [hI.1 j]; unfold z15; rw [show i = 15 by omega]; rfl) (fun j a c => hI.2.1 j a (by omega)) hI.2.2
  · refine e_aload_n (pc' := 28) dX11_anyway_27 rfl rfl ?_
    refine e_getR (pc' := 31) dX11_anyway_28 rfl f_11_73 h_88 rfl ?_
    refine e_iload_n (pc' := 32) dX11_anyway_31 rfl rfl ?_
    refine e_aload_n (pc' := 33) dX11_anyway_32 rfl rfl ?_
    refine e_getR (pc' := 36) dX11_anyway_33 rfl f_11_7 h_88 rfl ?_
    refine e_bipush (pc' := 38) (z := 35) dX11_anyway_36 rfl (by decide) ?_
    refine e_iload_n (pc' := 39) dX11_anyway_38 rfl rfl ?_
    refine e_iadd (pc' := 40) dX11_anyway_39 rfl ?_
    refine e_iald (pc' := 41) (v := (σ.1 89 (35 + i))) dX11_anyway_40 rfl h_89 (by decide) (by omega) (by omega) ((hI.1 (35 + i)).trans (if_neg (by omega))) ?_
    refine e_iast (pc' := 42) dX11_anyway_41 rfl h_107 (by decide) (by omega) (by omega) ?_
    refine e_aload_n (pc' := 43) dX11_anyway_42 rfl rfl ?_
    refine e_getR (pc' := 46) dX11_anyway_43 rfl f_11_7 h_88 rfl ?_
    refine e_bipush (pc' := 48) (z := 35) dX11_anyway_46 rfl (by decide) ?_
    refine e_iload_n (pc' := 49) dX11_anyway_48 rfl rfl ?_
    refine e_iadd (pc' := 50) dX11_anyway_49 rfl ?_
    refine e_iconst (pc' := 51) dX11_anyway_50 rfl ?_
    refine e_iast (pc' := 52) dX11_anyway_51 rfl h_89 (by decide) (by omega) (by omega) ?_
    refine e_iinc (pc' := 55) (L' := [some (rv 88), some (iv k), some (iv (smI (fun g => gv (ρ.1 (b + 5)) g) (ρ.1 b 6))), some (iv (i + 1)), none, none]) dX11_anyway_52 rfl rfl (by decide) rfl ?_
    refine e_goto (pc' := 21) dX11_anyway_55 (by decide) ?_
    refine ih (i + 1) (upI (upI τ 107 i (σ.1 89 (35 + i))) 89 (35 + i) 0) (by omega) (by omega) (by omega) ⟨fun j => ?_, fun j a c => ?_, fr_I (fr_I hI.2.2 (by decide)) (by decide)⟩
    · by_cases hj : j = 35 + i
      · rw [hj, if_pos (by omega)]; exact if_pos ⟨rfl, rfl⟩
      · refine (if_neg (fun q => hj q.2) : (upI (upI τ 107 i (σ.1 89 (35 + i))) 89 (35 + i) 0).1 89 j = τ.1 89 j).trans ?_
        show τ.1 89 j = _
        rw [hI.1 j]
        by_cases q : 35 ≤ j ∧ j < 35 + i
        · rw [if_pos q, if_pos (by omega)]
        · rw [if_neg q, if_neg (by omega)]
    · by_cases hj : j = i
      · rw [hj]; exact if_pos ⟨rfl, rfl⟩
      · exact (if_neg (fun q => hj q.2) : (upI (upI τ 107 i (σ.1 89 (35 + i))) 89 (35 + i) 0).1 107 j = τ.1 107 j).trans (hI.2.1 j a (by omega))

set_option maxHeartbeats 4000000 in
set_option maxRecDepth 100000 in
theorem s_m_anyway {X : AX} {d : Nat} {σ ρ : SG} {b : Nat} (h : MdI σ ρ b) (hpl0 : σ.1 88 18 = 0) (π : SG) (c : Nat) (hoπ : ScOK π c) (hXπ : ScX π c) (hPπ : MrP (z15 (σ.1 89)) π c) (hzπ : ∀ t, tlR π c t = 0) (hh : Int → Int64) (htr : (trS π c hh).1.1 c 6 = π.1 c 6) (k : Int) (hk : rg k) : Ev X 0 0 (d + 9) mX11_anyway 0 [some (rv 88), some (iv k), none, none, none, none] [] σ (QI (fun r σ' => r = (if 0 ≤ k ∧ k ≤ 1 then (if k = 0 then smI (fun g => gv ((trS π c hh).1.1 (c + 5)) g) (π.1 c 6) else smI (fun g => gv (ρ.1 (b + 5)) g) (ρ.1 b 6) - smI (fun g => gv ((trS π c hh).1.1 (c + 5)) g) (π.1 c 6)) else -1000) ∧ σ'.1 89 = σ.1 89 ∧ Fr [88, 89, 92, 93, 94, 95, 96, 97, 98, 99, 101, 102, 103, 107] σ σ' ∧ MdI σ' ρ b ∧ σ'.1 88 18 = 0)) := by
  have ho := h.1
  have hX := h.2.1
  have hP := h.2.2.1
  have hG := ho.1
  have hW := ho.2.1
  obtain ⟨hk1, hk2⟩ := hk
  refine e_iload_n (pc' := 1) dX11_anyway_0 rfl rfl ?_
  refine e_i2l (pc' := 2) dX11_anyway_1 rfl ⟨by first | omega | (split <;> omega), by first | omega | (split <;> omega)⟩ ?_
  refine e_lconst (pc' := 3) (z := 0) dX11_anyway_2 rfl rfl ?_
  refine e_lconst (pc' := 4) (z := 1) dX11_anyway_3 rfl rfl ?_
  refine e_cs3i (pc' := 7) dX11_anyway_4 rfl pn_11_80 k_11_80 (Nat.le_of_ble_eq_true rfl) rfl rfl ⟨rfl, rfl⟩ ⟨Nat.zero_le _, Nat.zero_le _⟩ (s_m_in k 0 1 (i64_to ⟨by omega, by omega⟩) (by decide) (by decide)) ?_
  intro r σ' hr; rw [hr.1, hr.2]; clear hr
  refine e_ifI (pc' := 10) (t := 14) dX11_anyway_7 (by decide) rfl ⟨by first | omega | (split <;> omega), by first | omega | (split <;> omega)⟩ (fun (c2_1 : ((if 0 ≤ k ∧ k ≤ 1 then 1 else 0) : Int) ≠ 0) => ?_) (fun (c2_1 : ¬ (((if 0 ≤ k ∧ k ≤ 1 then 1 else 0) : Int) ≠ 0)) => ?_)
  · have c2_1n : 0 ≤ k ∧ k ≤ 1 := Classical.byContradiction (fun hpq_ => absurd (if_neg hpq_ : (if 0 ≤ k ∧ k ≤ 1 then (1 : Int) else 0) = 0) (by have := c2_1; omega))
    refine e_aload_n (pc' := 15) dX11_anyway_14 rfl rfl ?_
    refine e_cv0i (pc' := 18) dX11_anyway_15 rfl k_11_245 h_88 rfl (Nat.le_of_ble_eq_true rfl) rfl rfl ⟨rfl, rfl⟩ ⟨Nat.zero_le _, Nat.zero_le _⟩ (s_m_coinsGiven h) ?_
    intro r σ' hr; rw [hr.1, hr.2]; clear hr
    refine e_istore_n (pc' := 19) (L' := [some (rv 88), some (iv k), some (iv (smI (fun g => gv (ρ.1 (b + 5)) g) (ρ.1 b 6))), none, none, none]) dX11_anyway_18 rfl (by decide) rfl ?_
    refine e_iconst (pc' := 20) dX11_anyway_19 rfl ?_
    refine e_istore_n (pc' := 21) (L' := [some (rv 88), some (iv k), some (iv (smI (fun g => gv (ρ.1 (b + 5)) g) (ρ.1 b 6))), some (iv 0), none, none]) dX11_anyway_20 rfl (by decide) rfl ?_
    rw [if_pos (by omega)]
    exact l_m_any0 h hpl0 π c hoπ hXπ hPπ hzπ hh htr k (by omega) 16 0 σ (by decide) (by decide) (by decide) ⟨fun j => by rw [if_neg (by omega)], fun j a c => absurd c (by omega), Fr.rf⟩
  · have c2_1n : ¬ (0 ≤ k ∧ k ≤ 1) := fun hpq_ => absurd (if_pos hpq_ : (if 0 ≤ k ∧ k ≤ 1 then (1 : Int) else 0) = 1) (by have := c2_1; omega)
    refine e_sipush (pc' := 13) (z := (-1000)) dX11_anyway_10 rfl (by decide) ?_
    exact e_iret dX11_anyway_13 rfl ⟨rfl, Nat.le_refl _⟩ ⟨_, rfl, by rw [if_neg (by omega)], rfl, Fr.rf, h, hpl0⟩
