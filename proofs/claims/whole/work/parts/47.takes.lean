/-- a rule like another, in its range -/
def RlEq (τ : SG) (r : Nat) (σ : SG) (q : Nat) : Prop := (τ.1 r 2 = σ.1 q 2 ∧ τ.1 r 3 = σ.1 q 3 ∧ τ.1 r 4 = σ.1 q 4) ∧ ∀ j, 0 ≤ j → j < 40 → τ.1 (r + 1) j = σ.1 (q + 1) j ∧ τ.1 (r + 2) j = σ.1 (q + 2) j
theorem RlEq.cg {τ τ' σ σ' : SG} {r q : Nat} (h : RlEq τ r σ q) (a0 : τ'.1 r = τ.1 r) (a1 : τ'.1 (r + 1) = τ.1 (r + 1)) (a2 : τ'.1 (r + 2) = τ.1 (r + 2)) (b0 : σ.1 q = σ'.1 q) (b1 : σ.1 (q + 1) = σ'.1 (q + 1)) (b2 : σ.1 (q + 2) = σ'.1 (q + 2)) : RlEq τ' r σ' q := by
  unfold RlEq at *
  rw [a0, a1, a2, ← b0, ← b1, ← b2]
  exact h
/-- people like others, gifts none -/
def PeI (τ : SG) (b : Nat) (σ : SG) (c : Nat) : Prop := (τ.1 b 6 = σ.1 c 6 ∧ τ.1 b 7 = σ.1 c 7 ∧ τ.1 b 8 = σ.1 c 8) ∧ (τ.1 b 9 = σ.1 b 9 ∧ τ.1 b 10 = σ.1 b 10 ∧ τ.1 b 11 = σ.1 b 11) ∧ (∀ j, 0 ≤ j → j < 5 → τ.1 (b + 1) j = σ.1 (c + 1) j) ∧ (∀ j, 0 ≤ j → j < 3 → τ.1 (b + 2) j = σ.1 (c + 2) j) ∧ (∀ j, 0 ≤ j → j < 15 → τ.1 (b + 3) j = σ.1 (c + 3) j ∧ τ.1 (b + 4) j = σ.1 (c + 4) j) ∧ (∀ j, 0 ≤ j → j < 15 → τ.1 (b + 5) j = 0)
/-- a scene like another, in its range -/
def SnEq (τ : SG) (b : Nat) (σ : SG) (c : Nat) : Prop := (τ.1 b 6 = σ.1 c 6 ∧ τ.1 b 7 = σ.1 c 7 ∧ τ.1 b 8 = σ.1 c 8) ∧ (τ.1 b 9 = σ.1 c 9 ∧ τ.1 b 10 = σ.1 c 10 ∧ τ.1 b 11 = σ.1 c 11) ∧ (∀ j, 0 ≤ j → j < 5 → τ.1 (b + 1) j = σ.1 (c + 1) j) ∧ (∀ j, 0 ≤ j → j < 3 → τ.1 (b + 2) j = σ.1 (c + 2) j) ∧ (∀ j, 0 ≤ j → j < 15 → τ.1 (b + 3) j = σ.1 (c + 3) j ∧ τ.1 (b + 4) j = σ.1 (c + 4) j) ∧ (∀ j, 0 ≤ j → j < 15 → τ.1 (b + 5) j = σ.1 (c + 5) j) ∧ RlEq τ (b + 7) σ (c + 7) ∧ RlEq τ (b + 10) σ (c + 10) ∧ RlEq τ (b + 13) σ (c + 13)
theorem cpy0 {f g : Int → Int} {n j : Int} (h0 : 0 ≤ j) (h1 : j < n) : cpyA f g 0 0 n j = f j := by
  unfold cpyA
  rw [if_pos ⟨h0, by omega⟩, show 0 + (j - 0) = j by omega]
theorem zero15 {f : Int → Int} (h0 : f 0 = 0) (h1 : f 1 = 0) (h2 : f 2 = 0) (h3 : f 3 = 0) (h4 : f 4 = 0) (h5 : f 5 = 0) (h6 : f 6 = 0) (h7 : f 7 = 0) (h8 : f 8 = 0) (h9 : f 9 = 0) (h10 : f 10 = 0) (h11 : f 11 = 0) (h12 : f 12 = 0) (h13 : f 13 = 0) (h14 : f 14 = 0) : ∀ j, 0 ≤ j → j < 15 → f j = 0 := by
  intro j a b
  have h : j = 0 ∨ j = 1 ∨ j = 2 ∨ j = 3 ∨ j = 4 ∨ j = 5 ∨ j = 6 ∨ j = 7 ∨ j = 8 ∨ j = 9 ∨ j = 10 ∨ j = 11 ∨ j = 12 ∨ j = 13 ∨ j = 14 := by omega
  rcases h with rfl | rfl | rfl | rfl | rfl | rfl | rfl | rfl | rfl | rfl | rfl | rfl | rfl | rfl | rfl <;> assumption

set_option maxHeartbeats 4000000 in
set_option maxRecDepth 100000 in
theorem s_takePeople_17_1 {X : AX} {d : Nat} {σ : SG} : Ev X 0 0 (d + 1) mX8_takePeople 0 [some (rv 17), some (rv 1), none] [] σ (QV (fun σ' => PeI σ' 17 σ 1 ∧ Fr [17, 18, 19, 20, 21, 22] σ σ')) := by
  refine e_aload_n (pc' := 1) dX8_takePeople_0 rfl rfl ?_
  refine e_getR (pc' := 4) dX8_takePeople_1 rfl f_8_9 h_1 rfl ?_
  refine e_iconst (pc' := 5) dX8_takePeople_4 rfl ?_
  refine e_aload_n (pc' := 6) dX8_takePeople_5 rfl rfl ?_
  refine e_getR (pc' := 9) dX8_takePeople_6 rfl f_8_9 h_17 rfl ?_
  refine e_iconst (pc' := 10) dX8_takePeople_9 rfl ?_
  refine e_iconst (pc' := 11) dX8_takePeople_10 rfl ?_
  refine e_copy (pc' := 14) dX8_takePeople_11 rfl p_8_57 h_2 h_18 ⟨by omega, by omega, by omega, by omega, by omega, by decide, by decide⟩ (Nat.le_of_ble_eq_true rfl) ?_
  refine e_aload_n (pc' := 15) dX8_takePeople_14 rfl rfl ?_
  refine e_getR (pc' := 18) dX8_takePeople_15 rfl f_8_15 h_1 rfl ?_
  refine e_iconst (pc' := 19) dX8_takePeople_18 rfl ?_
  refine e_aload_n (pc' := 20) dX8_takePeople_19 rfl rfl ?_
  refine e_getR (pc' := 23) dX8_takePeople_20 rfl f_8_15 h_17 rfl ?_
  refine e_iconst (pc' := 24) dX8_takePeople_23 rfl ?_
  refine e_iconst (pc' := 25) dX8_takePeople_24 rfl ?_
  refine e_copy (pc' := 28) dX8_takePeople_25 rfl p_8_57 h_3 h_19 ⟨by omega, by omega, by omega, by omega, by omega, by decide, by decide⟩ (Nat.le_of_ble_eq_true rfl) ?_
  refine e_aload_n (pc' := 29) dX8_takePeople_28 rfl rfl ?_
  refine e_getR (pc' := 32) dX8_takePeople_29 rfl f_8_18 h_1 rfl ?_
  refine e_iconst (pc' := 33) dX8_takePeople_32 rfl ?_
  refine e_aload_n (pc' := 34) dX8_takePeople_33 rfl rfl ?_
  refine e_getR (pc' := 37) dX8_takePeople_34 rfl f_8_18 h_17 rfl ?_
  refine e_iconst (pc' := 38) dX8_takePeople_37 rfl ?_
  refine e_bipush (pc' := 40) (z := 15) dX8_takePeople_38 rfl (by decide) ?_
  refine e_copy (pc' := 43) dX8_takePeople_40 rfl p_8_57 h_4 h_20 ⟨by omega, by omega, by omega, by omega, by omega, by decide, by decide⟩ (Nat.le_of_ble_eq_true rfl) ?_
  refine e_aload_n (pc' := 44) dX8_takePeople_43 rfl rfl ?_
  refine e_getR (pc' := 47) dX8_takePeople_44 rfl f_8_21 h_1 rfl ?_
  refine e_iconst (pc' := 48) dX8_takePeople_47 rfl ?_
  refine e_aload_n (pc' := 49) dX8_takePeople_48 rfl rfl ?_
  refine e_getR (pc' := 52) dX8_takePeople_49 rfl f_8_21 h_17 rfl ?_
  refine e_iconst (pc' := 53) dX8_takePeople_52 rfl ?_
  refine e_bipush (pc' := 55) (z := 15) dX8_takePeople_53 rfl (by decide) ?_
  refine e_copy (pc' := 58) dX8_takePeople_55 rfl p_8_57 h_5 h_21 ⟨by omega, by omega, by omega, by omega, by omega, by decide, by decide⟩ (Nat.le_of_ble_eq_true rfl) ?_
  refine e_aload_n (pc' := 59) dX8_takePeople_58 rfl rfl ?_
  refine e_aload_n (pc' := 60) dX8_takePeople_59 rfl rfl ?_
  refine e_getI (pc' := 63) (v := (σ.1 1 6)) dX8_takePeople_60 rfl f_8_33 h_1 rfl rfl ?_
  refine e_putI (pc' := 66) dX8_takePeople_63 rfl f_8_33 h_17 rfl rfl rfl ?_
  refine e_aload_n (pc' := 67) dX8_takePeople_66 rfl rfl ?_
  refine e_aload_n (pc' := 68) dX8_takePeople_67 rfl rfl ?_
  refine e_getI (pc' := 71) (v := (σ.1 1 7)) dX8_takePeople_68 rfl f_8_37 h_1 rfl rfl ?_
  refine e_putI (pc' := 74) dX8_takePeople_71 rfl f_8_37 h_17 rfl rfl rfl ?_
  refine e_aload_n (pc' := 75) dX8_takePeople_74 rfl rfl ?_
  refine e_aload_n (pc' := 76) dX8_takePeople_75 rfl rfl ?_
  refine e_getI (pc' := 79) (v := (σ.1 1 8)) dX8_takePeople_76 rfl f_8_40 h_1 rfl rfl ?_
  refine e_putI (pc' := 82) dX8_takePeople_79 rfl f_8_40 h_17 rfl rfl rfl ?_
  refine e_iconst (pc' := 83) dX8_takePeople_82 rfl ?_
  refine e_istore_n (pc' := 84) (L' := [some (rv 17), some (rv 1), some (iv 0)]) dX8_takePeople_83 rfl (by decide) rfl ?_
  refine e_iload_n (pc' := 85) dX8_takePeople_84 rfl rfl ?_
  refine e_bipush (pc' := 87) (z := 15) dX8_takePeople_85 rfl (by decide) ?_
  refine e_icmpI (pc' := 90) (t := 103) dX8_takePeople_87 (by decide) rfl ⟨by omega, by omega⟩ ⟨by omega, by omega⟩ (fun c2_1 => absurd (show 15 ≤ (0 : Int) from c2_1) (by decide)) (fun _ => ?_)
  refine e_aload_n (pc' := 91) dX8_takePeople_90 rfl rfl ?_
  refine e_getR (pc' := 94) dX8_takePeople_91 rfl f_8_24 h_17 rfl ?_
  refine e_iload_n (pc' := 95) dX8_takePeople_94 rfl rfl ?_
  refine e_iconst (pc' := 96) dX8_takePeople_95 rfl ?_
  refine e_iast (pc' := 97) dX8_takePeople_96 rfl h_22 (by decide) (by omega) (by omega) ?_
  refine e_iinc (pc' := 100) (L' := [some (rv 17), some (rv 1), some (iv 1)]) dX8_takePeople_97 rfl rfl (by decide) rfl ?_
  refine e_goto (pc' := 84) dX8_takePeople_100 (by decide) ?_
  refine e_iload_n (pc' := 85) dX8_takePeople_84 rfl rfl ?_
  refine e_bipush (pc' := 87) (z := 15) dX8_takePeople_85 rfl (by decide) ?_
  refine e_icmpI (pc' := 90) (t := 103) dX8_takePeople_87 (by decide) rfl ⟨by omega, by omega⟩ ⟨by omega, by omega⟩ (fun c2_2 => absurd (show 15 ≤ (1 : Int) from c2_2) (by decide)) (fun _ => ?_)
  refine e_aload_n (pc' := 91) dX8_takePeople_90 rfl rfl ?_
  refine e_getR (pc' := 94) dX8_takePeople_91 rfl f_8_24 h_17 rfl ?_
  refine e_iload_n (pc' := 95) dX8_takePeople_94 rfl rfl ?_
  refine e_iconst (pc' := 96) dX8_takePeople_95 rfl ?_
  refine e_iast (pc' := 97) dX8_takePeople_96 rfl h_22 (by decide) (by omega) (by omega) ?_
  refine e_iinc (pc' := 100) (L' := [some (rv 17), some (rv 1), some (iv 2)]) dX8_takePeople_97 rfl rfl (by decide) rfl ?_
  refine e_goto (pc' := 84) dX8_takePeople_100 (by decide) ?_
  refine e_iload_n (pc' := 85) dX8_takePeople_84 rfl rfl ?_
  refine e_bipush (pc' := 87) (z := 15) dX8_takePeople_85 rfl (by decide) ?_
  refine e_icmpI (pc' := 90) (t := 103) dX8_takePeople_87 (by decide) rfl ⟨by omega, by omega⟩ ⟨by omega, by omega⟩ (fun c2_3 => absurd (show 15 ≤ (2 : Int) from c2_3) (by decide)) (fun _ => ?_)
  refine e_aload_n (pc' := 91) dX8_takePeople_90 rfl rfl ?_
  refine e_getR (pc' := 94) dX8_takePeople_91 rfl f_8_24 h_17 rfl ?_
  refine e_iload_n (pc' := 95) dX8_takePeople_94 rfl rfl ?_
  refine e_iconst (pc' := 96) dX8_takePeople_95 rfl ?_
  refine e_iast (pc' := 97) dX8_takePeople_96 rfl h_22 (by decide) (by omega) (by omega) ?_
  refine e_iinc (pc' := 100) (L' := [some (rv 17), some (rv 1), some (iv 3)]) dX8_takePeople_97 rfl rfl (by decide) rfl ?_
  refine e_goto (pc' := 84) dX8_takePeople_100 (by decide) ?_
  refine e_iload_n (pc' := 85) dX8_takePeople_84 rfl rfl ?_
  refine e_bipush (pc' := 87) (z := 15) dX8_takePeople_85 rfl (by decide) ?_
  refine e_icmpI (pc' := 90) (t := 103) dX8_takePeople_87 (by decide) rfl ⟨by omega, by omega⟩ ⟨by omega, by omega⟩ (fun c2_4 => absurd (show 15 ≤ (3 : Int) from c2_4) (by decide)) (fun _ => ?_)
  refine e_aload_n (pc' := 91) dX8_takePeople_90 rfl rfl ?_
  refine e_getR (pc' := 94) dX8_takePeople_91 rfl f_8_24 h_17 rfl ?_
  refine e_iload_n (pc' := 95) dX8_takePeople_94 rfl rfl ?_
  refine e_iconst (pc' := 96) dX8_takePeople_95 rfl ?_
  refine e_iast (pc' := 97) dX8_takePeople_96 rfl h_22 (by decide) (by omega) (by omega) ?_
  refine e_iinc (pc' := 100) (L' := [some (rv 17), some (rv 1), some (iv 4)]) dX8_takePeople_97 rfl rfl (by decide) rfl ?_
  refine e_goto (pc' := 84) dX8_takePeople_100 (by decide) ?_
  refine e_iload_n (pc' := 85) dX8_takePeople_84 rfl rfl ?_
  refine e_bipush (pc' := 87) (z := 15) dX8_takePeople_85 rfl (by decide) ?_
  refine e_icmpI (pc' := 90) (t := 103) dX8_takePeople_87 (by decide) rfl ⟨by omega, by omega⟩ ⟨by omega, by omega⟩ (fun c2_5 => absurd (show 15 ≤ (4 : Int) from c2_5) (by decide)) (fun _ => ?_)
  refine e_aload_n (pc' := 91) dX8_takePeople_90 rfl rfl ?_
  refine e_getR (pc' := 94) dX8_takePeople_91 rfl f_8_24 h_17 rfl ?_
  refine e_iload_n (pc' := 95) dX8_takePeople_94 rfl rfl ?_
  refine e_iconst (pc' := 96) dX8_takePeople_95 rfl ?_
  refine e_iast (pc' := 97) dX8_takePeople_96 rfl h_22 (by decide) (by omega) (by omega) ?_
  refine e_iinc (pc' := 100) (L' := [some (rv 17), some (rv 1), some (iv 5)]) dX8_takePeople_97 rfl rfl (by decide) rfl ?_
  refine e_goto (pc' := 84) dX8_takePeople_100 (by decide) ?_
  refine e_iload_n (pc' := 85) dX8_takePeople_84 rfl rfl ?_
  refine e_bipush (pc' := 87) (z := 15) dX8_takePeople_85 rfl (by decide) ?_
  refine e_icmpI (pc' := 90) (t := 103) dX8_takePeople_87 (by decide) rfl ⟨by omega, by omega⟩ ⟨by omega, by omega⟩ (fun c2_6 => absurd (show 15 ≤ (5 : Int) from c2_6) (by decide)) (fun _ => ?_)
  refine e_aload_n (pc' := 91) dX8_takePeople_90 rfl rfl ?_
  refine e_getR (pc' := 94) dX8_takePeople_91 rfl f_8_24 h_17 rfl ?_
  refine e_iload_n (pc' := 95) dX8_takePeople_94 rfl rfl ?_
  refine e_iconst (pc' := 96) dX8_takePeople_95 rfl ?_
  refine e_iast (pc' := 97) dX8_takePeople_96 rfl h_22 (by decide) (by omega) (by omega) ?_
  refine e_iinc (pc' := 100) (L' := [some (rv 17), some (rv 1), some (iv 6)]) dX8_takePeople_97 rfl rfl (by decide) rfl ?_
  refine e_goto (pc' := 84) dX8_takePeople_100 (by decide) ?_
  refine e_iload_n (pc' := 85) dX8_takePeople_84 rfl rfl ?_
  refine e_bipush (pc' := 87) (z := 15) dX8_takePeople_85 rfl (by decide) ?_
  refine e_icmpI (pc' := 90) (t := 103) dX8_takePeople_87 (by decide) rfl ⟨by omega, by omega⟩ ⟨by omega, by omega⟩ (fun c2_7 => absurd (show 15 ≤ (6 : Int) from c2_7) (by decide)) (fun _ => ?_)
  refine e_aload_n (pc' := 91) dX8_takePeople_90 rfl rfl ?_
  refine e_getR (pc' := 94) dX8_takePeople_91 rfl f_8_24 h_17 rfl ?_
  refine e_iload_n (pc' := 95) dX8_takePeople_94 rfl rfl ?_
  refine e_iconst (pc' := 96) dX8_takePeople_95 rfl ?_
  refine e_iast (pc' := 97) dX8_takePeople_96 rfl h_22 (by decide) (by omega) (by omega) ?_
  refine e_iinc (pc' := 100) (L' := [some (rv 17), some (rv 1), some (iv 7)]) dX8_takePeople_97 rfl rfl (by decide) rfl ?_
  refine e_goto (pc' := 84) dX8_takePeople_100 (by decide) ?_
  refine e_iload_n (pc' := 85) dX8_takePeople_84 rfl rfl ?_
  refine e_bipush (pc' := 87) (z := 15) dX8_takePeople_85 rfl (by decide) ?_
  refine e_icmpI (pc' := 90) (t := 103) dX8_takePeople_87 (by decide) rfl ⟨by omega, by omega⟩ ⟨by omega, by omega⟩ (fun c2_8 => absurd (show 15 ≤ (7 : Int) from c2_8) (by decide)) (fun _ => ?_)
  refine e_aload_n (pc' := 91) dX8_takePeople_90 rfl rfl ?_
  refine e_getR (pc' := 94) dX8_takePeople_91 rfl f_8_24 h_17 rfl ?_
  refine e_iload_n (pc' := 95) dX8_takePeople_94 rfl rfl ?_
  refine e_iconst (pc' := 96) dX8_takePeople_95 rfl ?_
  refine e_iast (pc' := 97) dX8_takePeople_96 rfl h_22 (by decide) (by omega) (by omega) ?_
  refine e_iinc (pc' := 100) (L' := [some (rv 17), some (rv 1), some (iv 8)]) dX8_takePeople_97 rfl rfl (by decide) rfl ?_
  refine e_goto (pc' := 84) dX8_takePeople_100 (by decide) ?_
  refine e_iload_n (pc' := 85) dX8_takePeople_84 rfl rfl ?_
  refine e_bipush (pc' := 87) (z := 15) dX8_takePeople_85 rfl (by decide) ?_
  refine e_icmpI (pc' := 90) (t := 103) dX8_takePeople_87 (by decide) rfl ⟨by omega, by omega⟩ ⟨by omega, by omega⟩ (fun c2_9 => absurd (show 15 ≤ (8 : Int) from c2_9) (by decide)) (fun _ => ?_)
  refine e_aload_n (pc' := 91) dX8_takePeople_90 rfl rfl ?_
  refine e_getR (pc' := 94) dX8_takePeople_91 rfl f_8_24 h_17 rfl ?_
  refine e_iload_n (pc' := 95) dX8_takePeople_94 rfl rfl ?_
  refine e_iconst (pc' := 96) dX8_takePeople_95 rfl ?_
  refine e_iast (pc' := 97) dX8_takePeople_96 rfl h_22 (by decide) (by omega) (by omega) ?_
  refine e_iinc (pc' := 100) (L' := [some (rv 17), some (rv 1), some (iv 9)]) dX8_takePeople_97 rfl rfl (by decide) rfl ?_
  refine e_goto (pc' := 84) dX8_takePeople_100 (by decide) ?_
  refine e_iload_n (pc' := 85) dX8_takePeople_84 rfl rfl ?_
  refine e_bipush (pc' := 87) (z := 15) dX8_takePeople_85 rfl (by decide) ?_
  refine e_icmpI (pc' := 90) (t := 103) dX8_takePeople_87 (by decide) rfl ⟨by omega, by omega⟩ ⟨by omega, by omega⟩ (fun c2_10 => absurd (show 15 ≤ (9 : Int) from c2_10) (by decide)) (fun _ => ?_)
  refine e_aload_n (pc' := 91) dX8_takePeople_90 rfl rfl ?_
  refine e_getR (pc' := 94) dX8_takePeople_91 rfl f_8_24 h_17 rfl ?_
  refine e_iload_n (pc' := 95) dX8_takePeople_94 rfl rfl ?_
  refine e_iconst (pc' := 96) dX8_takePeople_95 rfl ?_
  refine e_iast (pc' := 97) dX8_takePeople_96 rfl h_22 (by decide) (by omega) (by omega) ?_
  refine e_iinc (pc' := 100) (L' := [some (rv 17), some (rv 1), some (iv 10)]) dX8_takePeople_97 rfl rfl (by decide) rfl ?_
  refine e_goto (pc' := 84) dX8_takePeople_100 (by decide) ?_
  refine e_iload_n (pc' := 85) dX8_takePeople_84 rfl rfl ?_
  refine e_bipush (pc' := 87) (z := 15) dX8_takePeople_85 rfl (by decide) ?_
  refine e_icmpI (pc' := 90) (t := 103) dX8_takePeople_87 (by decide) rfl ⟨by omega, by omega⟩ ⟨by omega, by omega⟩ (fun c2_11 => absurd (show 15 ≤ (10 : Int) from c2_11) (by decide)) (fun _ => ?_)
  refine e_aload_n (pc' := 91) dX8_takePeople_90 rfl rfl ?_
  refine e_getR (pc' := 94) dX8_takePeople_91 rfl f_8_24 h_17 rfl ?_
  refine e_iload_n (pc' := 95) dX8_takePeople_94 rfl rfl ?_
  refine e_iconst (pc' := 96) dX8_takePeople_95 rfl ?_
  refine e_iast (pc' := 97) dX8_takePeople_96 rfl h_22 (by decide) (by omega) (by omega) ?_
  refine e_iinc (pc' := 100) (L' := [some (rv 17), some (rv 1), some (iv 11)]) dX8_takePeople_97 rfl rfl (by decide) rfl ?_
  refine e_goto (pc' := 84) dX8_takePeople_100 (by decide) ?_
  refine e_iload_n (pc' := 85) dX8_takePeople_84 rfl rfl ?_
  refine e_bipush (pc' := 87) (z := 15) dX8_takePeople_85 rfl (by decide) ?_
  refine e_icmpI (pc' := 90) (t := 103) dX8_takePeople_87 (by decide) rfl ⟨by omega, by omega⟩ ⟨by omega, by omega⟩ (fun c2_12 => absurd (show 15 ≤ (11 : Int) from c2_12) (by decide)) (fun _ => ?_)
  refine e_aload_n (pc' := 91) dX8_takePeople_90 rfl rfl ?_
  refine e_getR (pc' := 94) dX8_takePeople_91 rfl f_8_24 h_17 rfl ?_
  refine e_iload_n (pc' := 95) dX8_takePeople_94 rfl rfl ?_
  refine e_iconst (pc' := 96) dX8_takePeople_95 rfl ?_
  refine e_iast (pc' := 97) dX8_takePeople_96 rfl h_22 (by decide) (by omega) (by omega) ?_
  refine e_iinc (pc' := 100) (L' := [some (rv 17), some (rv 1), some (iv 12)]) dX8_takePeople_97 rfl rfl (by decide) rfl ?_
  refine e_goto (pc' := 84) dX8_takePeople_100 (by decide) ?_
  refine e_iload_n (pc' := 85) dX8_takePeople_84 rfl rfl ?_
  refine e_bipush (pc' := 87) (z := 15) dX8_takePeople_85 rfl (by decide) ?_
  refine e_icmpI (pc' := 90) (t := 103) dX8_takePeople_87 (by decide) rfl ⟨by omega, by omega⟩ ⟨by omega, by omega⟩ (fun c2_13 => absurd (show 15 ≤ (12 : Int) from c2_13) (by decide)) (fun _ => ?_)
  refine e_aload_n (pc' := 91) dX8_takePeople_90 rfl rfl ?_
  refine e_getR (pc' := 94) dX8_takePeople_91 rfl f_8_24 h_17 rfl ?_
  refine e_iload_n (pc' := 95) dX8_takePeople_94 rfl rfl ?_
  refine e_iconst (pc' := 96) dX8_takePeople_95 rfl ?_
  refine e_iast (pc' := 97) dX8_takePeople_96 rfl h_22 (by decide) (by omega) (by omega) ?_
  refine e_iinc (pc' := 100) (L' := [some (rv 17), some (rv 1), some (iv 13)]) dX8_takePeople_97 rfl rfl (by decide) rfl ?_
  refine e_goto (pc' := 84) dX8_takePeople_100 (by decide) ?_
  refine e_iload_n (pc' := 85) dX8_takePeople_84 rfl rfl ?_
  refine e_bipush (pc' := 87) (z := 15) dX8_takePeople_85 rfl (by decide) ?_
  refine e_icmpI (pc' := 90) (t := 103) dX8_takePeople_87 (by decide) rfl ⟨by omega, by omega⟩ ⟨by omega, by omega⟩ (fun c2_14 => absurd (show 15 ≤ (13 : Int) from c2_14) (by decide)) (fun _ => ?_)
  refine e_aload_n (pc' := 91) dX8_takePeople_90 rfl rfl ?_
  refine e_getR (pc' := 94) dX8_takePeople_91 rfl f_8_24 h_17 rfl ?_
  refine e_iload_n (pc' := 95) dX8_takePeople_94 rfl rfl ?_
  refine e_iconst (pc' := 96) dX8_takePeople_95 rfl ?_
  refine e_iast (pc' := 97) dX8_takePeople_96 rfl h_22 (by decide) (by omega) (by omega) ?_
  refine e_iinc (pc' := 100) (L' := [some (rv 17), some (rv 1), some (iv 14)]) dX8_takePeople_97 rfl rfl (by decide) rfl ?_
  refine e_goto (pc' := 84) dX8_takePeople_100 (by decide) ?_
  refine e_iload_n (pc' := 85) dX8_takePeople_84 rfl rfl ?_
  refine e_bipush (pc' := 87) (z := 15) dX8_takePeople_85 rfl (by decide) ?_
  refine e_icmpI (pc' := 90) (t := 103) dX8_takePeople_87 (by decide) rfl ⟨by omega, by omega⟩ ⟨by omega, by omega⟩ (fun c2_15 => absurd (show 15 ≤ (14 : Int) from c2_15) (by decide)) (fun _ => ?_)
  refine e_aload_n (pc' := 91) dX8_takePeople_90 rfl rfl ?_
  refine e_getR (pc' := 94) dX8_takePeople_91 rfl f_8_24 h_17 rfl ?_
  refine e_iload_n (pc' := 95) dX8_takePeople_94 rfl rfl ?_
  refine e_iconst (pc' := 96) dX8_takePeople_95 rfl ?_
  refine e_iast (pc' := 97) dX8_takePeople_96 rfl h_22 (by decide) (by omega) (by omega) ?_
  refine e_iinc (pc' := 100) (L' := [some (rv 17), some (rv 1), some (iv 15)]) dX8_takePeople_97 rfl rfl (by decide) rfl ?_
  refine e_goto (pc' := 84) dX8_takePeople_100 (by decide) ?_
  refine e_iload_n (pc' := 85) dX8_takePeople_84 rfl rfl ?_
  refine e_bipush (pc' := 87) (z := 15) dX8_takePeople_85 rfl (by decide) ?_
  refine e_icmpI (pc' := 90) (t := 103) dX8_takePeople_87 (by decide) rfl ⟨by omega, by omega⟩ ⟨by omega, by omega⟩ (fun _ => ?_) (fun c2_16 => absurd (show 15 ≤ (15 : Int) by decide) c2_16)
  exact e_vret dX8_takePeople_103 rfl ⟨rfl, Nat.le_refl _⟩ ⟨rfl, ⟨⟨rfl, rfl, rfl⟩, ⟨rfl, rfl, rfl⟩, fun j a b => cpy0 a b, fun j a b => cpy0 a b, fun j a b => ⟨cpy0 a b, cpy0 a b⟩, zero15 rfl rfl rfl rfl rfl rfl rfl rfl rfl rfl rfl rfl rfl rfl rfl⟩, (by repeat (first | exact Fr.rf | (refine fr_I ?_ (by decide)) | (refine fr_J ?_ (by decide)) | (refine fr_C ?_ (by decide))))⟩

set_option maxHeartbeats 4000000 in
set_option maxRecDepth 100000 in
theorem s_takePeople_56_1 {X : AX} {d : Nat} {σ : SG} : Ev X 0 0 (d + 1) mX8_takePeople 0 [some (rv 56), some (rv 1), none] [] σ (QV (fun σ' => PeI σ' 56 σ 1 ∧ Fr [56, 57, 58, 59, 60, 61] σ σ')) := by
  refine e_aload_n (pc' := 1) dX8_takePeople_0 rfl rfl ?_
  refine e_getR (pc' := 4) dX8_takePeople_1 rfl f_8_9 h_1 rfl ?_
  refine e_iconst (pc' := 5) dX8_takePeople_4 rfl ?_
  refine e_aload_n (pc' := 6) dX8_takePeople_5 rfl rfl ?_
  refine e_getR (pc' := 9) dX8_takePeople_6 rfl f_8_9 h_56 rfl ?_
  refine e_iconst (pc' := 10) dX8_takePeople_9 rfl ?_
  refine e_iconst (pc' := 11) dX8_takePeople_10 rfl ?_
  refine e_copy (pc' := 14) dX8_takePeople_11 rfl p_8_57 h_2 h_57 ⟨by omega, by omega, by omega, by omega, by omega, by decide, by decide⟩ (Nat.le_of_ble_eq_true rfl) ?_
  refine e_aload_n (pc' := 15) dX8_takePeople_14 rfl rfl ?_
  refine e_getR (pc' := 18) dX8_takePeople_15 rfl f_8_15 h_1 rfl ?_
  refine e_iconst (pc' := 19) dX8_takePeople_18 rfl ?_
  refine e_aload_n (pc' := 20) dX8_takePeople_19 rfl rfl ?_
  refine e_getR (pc' := 23) dX8_takePeople_20 rfl f_8_15 h_56 rfl ?_
  refine e_iconst (pc' := 24) dX8_takePeople_23 rfl ?_
  refine e_iconst (pc' := 25) dX8_takePeople_24 rfl ?_
  refine e_copy (pc' := 28) dX8_takePeople_25 rfl p_8_57 h_3 h_58 ⟨by omega, by omega, by omega, by omega, by omega, by decide, by decide⟩ (Nat.le_of_ble_eq_true rfl) ?_
  refine e_aload_n (pc' := 29) dX8_takePeople_28 rfl rfl ?_
  refine e_getR (pc' := 32) dX8_takePeople_29 rfl f_8_18 h_1 rfl ?_
  refine e_iconst (pc' := 33) dX8_takePeople_32 rfl ?_
  refine e_aload_n (pc' := 34) dX8_takePeople_33 rfl rfl ?_
  refine e_getR (pc' := 37) dX8_takePeople_34 rfl f_8_18 h_56 rfl ?_
  refine e_iconst (pc' := 38) dX8_takePeople_37 rfl ?_
  refine e_bipush (pc' := 40) (z := 15) dX8_takePeople_38 rfl (by decide) ?_
  refine e_copy (pc' := 43) dX8_takePeople_40 rfl p_8_57 h_4 h_59 ⟨by omega, by omega, by omega, by omega, by omega, by decide, by decide⟩ (Nat.le_of_ble_eq_true rfl) ?_
  refine e_aload_n (pc' := 44) dX8_takePeople_43 rfl rfl ?_
  refine e_getR (pc' := 47) dX8_takePeople_44 rfl f_8_21 h_1 rfl ?_
  refine e_iconst (pc' := 48) dX8_takePeople_47 rfl ?_
  refine e_aload_n (pc' := 49) dX8_takePeople_48 rfl rfl ?_
  refine e_getR (pc' := 52) dX8_takePeople_49 rfl f_8_21 h_56 rfl ?_
  refine e_iconst (pc' := 53) dX8_takePeople_52 rfl ?_
  refine e_bipush (pc' := 55) (z := 15) dX8_takePeople_53 rfl (by decide) ?_
  refine e_copy (pc' := 58) dX8_takePeople_55 rfl p_8_57 h_5 h_60 ⟨by omega, by omega, by omega, by omega, by omega, by decide, by decide⟩ (Nat.le_of_ble_eq_true rfl) ?_
  refine e_aload_n (pc' := 59) dX8_takePeople_58 rfl rfl ?_
  refine e_aload_n (pc' := 60) dX8_takePeople_59 rfl rfl ?_
  refine e_getI (pc' := 63) (v := (σ.1 1 6)) dX8_takePeople_60 rfl f_8_33 h_1 rfl rfl ?_
  refine e_putI (pc' := 66) dX8_takePeople_63 rfl f_8_33 h_56 rfl rfl rfl ?_
  refine e_aload_n (pc' := 67) dX8_takePeople_66 rfl rfl ?_
  refine e_aload_n (pc' := 68) dX8_takePeople_67 rfl rfl ?_
  refine e_getI (pc' := 71) (v := (σ.1 1 7)) dX8_takePeople_68 rfl f_8_37 h_1 rfl rfl ?_
  refine e_putI (pc' := 74) dX8_takePeople_71 rfl f_8_37 h_56 rfl rfl rfl ?_
  refine e_aload_n (pc' := 75) dX8_takePeople_74 rfl rfl ?_
  refine e_aload_n (pc' := 76) dX8_takePeople_75 rfl rfl ?_
  refine e_getI (pc' := 79) (v := (σ.1 1 8)) dX8_takePeople_76 rfl f_8_40 h_1 rfl rfl ?_
  refine e_putI (pc' := 82) dX8_takePeople_79 rfl f_8_40 h_56 rfl rfl rfl ?_
  refine e_iconst (pc' := 83) dX8_takePeople_82 rfl ?_
  refine e_istore_n (pc' := 84) (L' := [some (rv 56), some (rv 1), some (iv 0)]) dX8_takePeople_83 rfl (by decide) rfl ?_
  refine e_iload_n (pc' := 85) dX8_takePeople_84 rfl rfl ?_
  refine e_bipush (pc' := 87) (z := 15) dX8_takePeople_85 rfl (by decide) ?_
  refine e_icmpI (pc' := 90) (t := 103) dX8_takePeople_87 (by decide) rfl ⟨by omega, by omega⟩ ⟨by omega, by omega⟩ (fun c2_1 => absurd (show 15 ≤ (0 : Int) from c2_1) (by decide)) (fun _ => ?_)
  refine e_aload_n (pc' := 91) dX8_takePeople_90 rfl rfl ?_
  refine e_getR (pc' := 94) dX8_takePeople_91 rfl f_8_24 h_56 rfl ?_
  refine e_iload_n (pc' := 95) dX8_takePeople_94 rfl rfl ?_
  refine e_iconst (pc' := 96) dX8_takePeople_95 rfl ?_
  refine e_iast (pc' := 97) dX8_takePeople_96 rfl h_61 (by decide) (by omega) (by omega) ?_
  refine e_iinc (pc' := 100) (L' := [some (rv 56), some (rv 1), some (iv 1)]) dX8_takePeople_97 rfl rfl (by decide) rfl ?_
  refine e_goto (pc' := 84) dX8_takePeople_100 (by decide) ?_
  refine e_iload_n (pc' := 85) dX8_takePeople_84 rfl rfl ?_
  refine e_bipush (pc' := 87) (z := 15) dX8_takePeople_85 rfl (by decide) ?_
  refine e_icmpI (pc' := 90) (t := 103) dX8_takePeople_87 (by decide) rfl ⟨by omega, by omega⟩ ⟨by omega, by omega⟩ (fun c2_2 => absurd (show 15 ≤ (1 : Int) from c2_2) (by decide)) (fun _ => ?_)
  refine e_aload_n (pc' := 91) dX8_takePeople_90 rfl rfl ?_
  refine e_getR (pc' := 94) dX8_takePeople_91 rfl f_8_24 h_56 rfl ?_
  refine e_iload_n (pc' := 95) dX8_takePeople_94 rfl rfl ?_
  refine e_iconst (pc' := 96) dX8_takePeople_95 rfl ?_
  refine e_iast (pc' := 97) dX8_takePeople_96 rfl h_61 (by decide) (by omega) (by omega) ?_
  refine e_iinc (pc' := 100) (L' := [some (rv 56), some (rv 1), some (iv 2)]) dX8_takePeople_97 rfl rfl (by decide) rfl ?_
  refine e_goto (pc' := 84) dX8_takePeople_100 (by decide) ?_
  refine e_iload_n (pc' := 85) dX8_takePeople_84 rfl rfl ?_
  refine e_bipush (pc' := 87) (z := 15) dX8_takePeople_85 rfl (by decide) ?_
  refine e_icmpI (pc' := 90) (t := 103) dX8_takePeople_87 (by decide) rfl ⟨by omega, by omega⟩ ⟨by omega, by omega⟩ (fun c2_3 => absurd (show 15 ≤ (2 : Int) from c2_3) (by decide)) (fun _ => ?_)
  refine e_aload_n (pc' := 91) dX8_takePeople_90 rfl rfl ?_
  refine e_getR (pc' := 94) dX8_takePeople_91 rfl f_8_24 h_56 rfl ?_
  refine e_iload_n (pc' := 95) dX8_takePeople_94 rfl rfl ?_
  refine e_iconst (pc' := 96) dX8_takePeople_95 rfl ?_
  refine e_iast (pc' := 97) dX8_takePeople_96 rfl h_61 (by decide) (by omega) (by omega) ?_
  refine e_iinc (pc' := 100) (L' := [some (rv 56), some (rv 1), some (iv 3)]) dX8_takePeople_97 rfl rfl (by decide) rfl ?_
  refine e_goto (pc' := 84) dX8_takePeople_100 (by decide) ?_
  refine e_iload_n (pc' := 85) dX8_takePeople_84 rfl rfl ?_
  refine e_bipush (pc' := 87) (z := 15) dX8_takePeople_85 rfl (by decide) ?_
  refine e_icmpI (pc' := 90) (t := 103) dX8_takePeople_87 (by decide) rfl ⟨by omega, by omega⟩ ⟨by omega, by omega⟩ (fun c2_4 => absurd (show 15 ≤ (3 : Int) from c2_4) (by decide)) (fun _ => ?_)
  refine e_aload_n (pc' := 91) dX8_takePeople_90 rfl rfl ?_
  refine e_getR (pc' := 94) dX8_takePeople_91 rfl f_8_24 h_56 rfl ?_
  refine e_iload_n (pc' := 95) dX8_takePeople_94 rfl rfl ?_
  refine e_iconst (pc' := 96) dX8_takePeople_95 rfl ?_
  refine e_iast (pc' := 97) dX8_takePeople_96 rfl h_61 (by decide) (by omega) (by omega) ?_
  refine e_iinc (pc' := 100) (L' := [some (rv 56), some (rv 1), some (iv 4)]) dX8_takePeople_97 rfl rfl (by decide) rfl ?_
  refine e_goto (pc' := 84) dX8_takePeople_100 (by decide) ?_
  refine e_iload_n (pc' := 85) dX8_takePeople_84 rfl rfl ?_
  refine e_bipush (pc' := 87) (z := 15) dX8_takePeople_85 rfl (by decide) ?_
  refine e_icmpI (pc' := 90) (t := 103) dX8_takePeople_87 (by decide) rfl ⟨by omega, by omega⟩ ⟨by omega, by omega⟩ (fun c2_5 => absurd (show 15 ≤ (4 : Int) from c2_5) (by decide)) (fun _ => ?_)
  refine e_aload_n (pc' := 91) dX8_takePeople_90 rfl rfl ?_
  refine e_getR (pc' := 94) dX8_takePeople_91 rfl f_8_24 h_56 rfl ?_
  refine e_iload_n (pc' := 95) dX8_takePeople_94 rfl rfl ?_
  refine e_iconst (pc' := 96) dX8_takePeople_95 rfl ?_
  refine e_iast (pc' := 97) dX8_takePeople_96 rfl h_61 (by decide) (by omega) (by omega) ?_
  refine e_iinc (pc' := 100) (L' := [some (rv 56), some (rv 1), some (iv 5)]) dX8_takePeople_97 rfl rfl (by decide) rfl ?_
  refine e_goto (pc' := 84) dX8_takePeople_100 (by decide) ?_
  refine e_iload_n (pc' := 85) dX8_takePeople_84 rfl rfl ?_
  refine e_bipush (pc' := 87) (z := 15) dX8_takePeople_85 rfl (by decide) ?_
  refine e_icmpI (pc' := 90) (t := 103) dX8_takePeople_87 (by decide) rfl ⟨by omega, by omega⟩ ⟨by omega, by omega⟩ (fun c2_6 => absurd (show 15 ≤ (5 : Int) from c2_6) (by decide)) (fun _ => ?_)
  refine e_aload_n (pc' := 91) dX8_takePeople_90 rfl rfl ?_
  refine e_getR (pc' := 94) dX8_takePeople_91 rfl f_8_24 h_56 rfl ?_
  refine e_iload_n (pc' := 95) dX8_takePeople_94 rfl rfl ?_
  refine e_iconst (pc' := 96) dX8_takePeople_95 rfl ?_
  refine e_iast (pc' := 97) dX8_takePeople_96 rfl h_61 (by decide) (by omega) (by omega) ?_
  refine e_iinc (pc' := 100) (L' := [some (rv 56), some (rv 1), some (iv 6)]) dX8_takePeople_97 rfl rfl (by decide) rfl ?_
  refine e_goto (pc' := 84) dX8_takePeople_100 (by decide) ?_
  refine e_iload_n (pc' := 85) dX8_takePeople_84 rfl rfl ?_
  refine e_bipush (pc' := 87) (z := 15) dX8_takePeople_85 rfl (by decide) ?_
  refine e_icmpI (pc' := 90) (t := 103) dX8_takePeople_87 (by decide) rfl ⟨by omega, by omega⟩ ⟨by omega, by omega⟩ (fun c2_7 => absurd (show 15 ≤ (6 : Int) from c2_7) (by decide)) (fun _ => ?_)
  refine e_aload_n (pc' := 91) dX8_takePeople_90 rfl rfl ?_
  refine e_getR (pc' := 94) dX8_takePeople_91 rfl f_8_24 h_56 rfl ?_
  refine e_iload_n (pc' := 95) dX8_takePeople_94 rfl rfl ?_
  refine e_iconst (pc' := 96) dX8_takePeople_95 rfl ?_
  refine e_iast (pc' := 97) dX8_takePeople_96 rfl h_61 (by decide) (by omega) (by omega) ?_
  refine e_iinc (pc' := 100) (L' := [some (rv 56), some (rv 1), some (iv 7)]) dX8_takePeople_97 rfl rfl (by decide) rfl ?_
  refine e_goto (pc' := 84) dX8_takePeople_100 (by decide) ?_
  refine e_iload_n (pc' := 85) dX8_takePeople_84 rfl rfl ?_
  refine e_bipush (pc' := 87) (z := 15) dX8_takePeople_85 rfl (by decide) ?_
  refine e_icmpI (pc' := 90) (t := 103) dX8_takePeople_87 (by decide) rfl ⟨by omega, by omega⟩ ⟨by omega, by omega⟩ (fun c2_8 => absurd (show 15 ≤ (7 : Int) from c2_8) (by decide)) (fun _ => ?_)
  refine e_aload_n (pc' := 91) dX8_takePeople_90 rfl rfl ?_
  refine e_getR (pc' := 94) dX8_takePeople_91 rfl f_8_24 h_56 rfl ?_
  refine e_iload_n (pc' := 95) dX8_takePeople_94 rfl rfl ?_
  refine e_iconst (pc' := 96) dX8_takePeople_95 rfl ?_
  refine e_iast (pc' := 97) dX8_takePeople_96 rfl h_61 (by decide) (by omega) (by omega) ?_
  refine e_iinc (pc' := 100) (L' := [some (rv 56), some (rv 1), some (iv 8)]) dX8_takePeople_97 rfl rfl (by decide) rfl ?_
  refine e_goto (pc' := 84) dX8_takePeople_100 (by decide) ?_
  refine e_iload_n (pc' := 85) dX8_takePeople_84 rfl rfl ?_
  refine e_bipush (pc' := 87) (z := 15) dX8_takePeople_85 rfl (by decide) ?_
  refine e_icmpI (pc' := 90) (t := 103) dX8_takePeople_87 (by decide) rfl ⟨by omega, by omega⟩ ⟨by omega, by omega⟩ (fun c2_9 => absurd (show 15 ≤ (8 : Int) from c2_9) (by decide)) (fun _ => ?_)
  refine e_aload_n (pc' := 91) dX8_takePeople_90 rfl rfl ?_
  refine e_getR (pc' := 94) dX8_takePeople_91 rfl f_8_24 h_56 rfl ?_
  refine e_iload_n (pc' := 95) dX8_takePeople_94 rfl rfl ?_
  refine e_iconst (pc' := 96) dX8_takePeople_95 rfl ?_
  refine e_iast (pc' := 97) dX8_takePeople_96 rfl h_61 (by decide) (by omega) (by omega) ?_
  refine e_iinc (pc' := 100) (L' := [some (rv 56), some (rv 1), some (iv 9)]) dX8_takePeople_97 rfl rfl (by decide) rfl ?_
  refine e_goto (pc' := 84) dX8_takePeople_100 (by decide) ?_
  refine e_iload_n (pc' := 85) dX8_takePeople_84 rfl rfl ?_
  refine e_bipush (pc' := 87) (z := 15) dX8_takePeople_85 rfl (by decide) ?_
  refine e_icmpI (pc' := 90) (t := 103) dX8_takePeople_87 (by decide) rfl ⟨by omega, by omega⟩ ⟨by omega, by omega⟩ (fun c2_10 => absurd (show 15 ≤ (9 : Int) from c2_10) (by decide)) (fun _ => ?_)
  refine e_aload_n (pc' := 91) dX8_takePeople_90 rfl rfl ?_
  refine e_getR (pc' := 94) dX8_takePeople_91 rfl f_8_24 h_56 rfl ?_
  refine e_iload_n (pc' := 95) dX8_takePeople_94 rfl rfl ?_
  refine e_iconst (pc' := 96) dX8_takePeople_95 rfl ?_
  refine e_iast (pc' := 97) dX8_takePeople_96 rfl h_61 (by decide) (by omega) (by omega) ?_
  refine e_iinc (pc' := 100) (L' := [some (rv 56), some (rv 1), some (iv 10)]) dX8_takePeople_97 rfl rfl (by decide) rfl ?_
  refine e_goto (pc' := 84) dX8_takePeople_100 (by decide) ?_
  refine e_iload_n (pc' := 85) dX8_takePeople_84 rfl rfl ?_
  refine e_bipush (pc' := 87) (z := 15) dX8_takePeople_85 rfl (by decide) ?_
  refine e_icmpI (pc' := 90) (t := 103) dX8_takePeople_87 (by decide) rfl ⟨by omega, by omega⟩ ⟨by omega, by omega⟩ (fun c2_11 => absurd (show 15 ≤ (10 : Int) from c2_11) (by decide)) (fun _ => ?_)
  refine e_aload_n (pc' := 91) dX8_takePeople_90 rfl rfl ?_
  refine e_getR (pc' := 94) dX8_takePeople_91 rfl f_8_24 h_56 rfl ?_
  refine e_iload_n (pc' := 95) dX8_takePeople_94 rfl rfl ?_
  refine e_iconst (pc' := 96) dX8_takePeople_95 rfl ?_
  refine e_iast (pc' := 97) dX8_takePeople_96 rfl h_61 (by decide) (by omega) (by omega) ?_
  refine e_iinc (pc' := 100) (L' := [some (rv 56), some (rv 1), some (iv 11)]) dX8_takePeople_97 rfl rfl (by decide) rfl ?_
  refine e_goto (pc' := 84) dX8_takePeople_100 (by decide) ?_
  refine e_iload_n (pc' := 85) dX8_takePeople_84 rfl rfl ?_
  refine e_bipush (pc' := 87) (z := 15) dX8_takePeople_85 rfl (by decide) ?_
  refine e_icmpI (pc' := 90) (t := 103) dX8_takePeople_87 (by decide) rfl ⟨by omega, by omega⟩ ⟨by omega, by omega⟩ (fun c2_12 => absurd (show 15 ≤ (11 : Int) from c2_12) (by decide)) (fun _ => ?_)
  refine e_aload_n (pc' := 91) dX8_takePeople_90 rfl rfl ?_
  refine e_getR (pc' := 94) dX8_takePeople_91 rfl f_8_24 h_56 rfl ?_
  refine e_iload_n (pc' := 95) dX8_takePeople_94 rfl rfl ?_
  refine e_iconst (pc' := 96) dX8_takePeople_95 rfl ?_
  refine e_iast (pc' := 97) dX8_takePeople_96 rfl h_61 (by decide) (by omega) (by omega) ?_
  refine e_iinc (pc' := 100) (L' := [some (rv 56), some (rv 1), some (iv 12)]) dX8_takePeople_97 rfl rfl (by decide) rfl ?_
  refine e_goto (pc' := 84) dX8_takePeople_100 (by decide) ?_
  refine e_iload_n (pc' := 85) dX8_takePeople_84 rfl rfl ?_
  refine e_bipush (pc' := 87) (z := 15) dX8_takePeople_85 rfl (by decide) ?_
  refine e_icmpI (pc' := 90) (t := 103) dX8_takePeople_87 (by decide) rfl ⟨by omega, by omega⟩ ⟨by omega, by omega⟩ (fun c2_13 => absurd (show 15 ≤ (12 : Int) from c2_13) (by decide)) (fun _ => ?_)
  refine e_aload_n (pc' := 91) dX8_takePeople_90 rfl rfl ?_
  refine e_getR (pc' := 94) dX8_takePeople_91 rfl f_8_24 h_56 rfl ?_
  refine e_iload_n (pc' := 95) dX8_takePeople_94 rfl rfl ?_
  refine e_iconst (pc' := 96) dX8_takePeople_95 rfl ?_
  refine e_iast (pc' := 97) dX8_takePeople_96 rfl h_61 (by decide) (by omega) (by omega) ?_
  refine e_iinc (pc' := 100) (L' := [some (rv 56), some (rv 1), some (iv 13)]) dX8_takePeople_97 rfl rfl (by decide) rfl ?_
  refine e_goto (pc' := 84) dX8_takePeople_100 (by decide) ?_
  refine e_iload_n (pc' := 85) dX8_takePeople_84 rfl rfl ?_
  refine e_bipush (pc' := 87) (z := 15) dX8_takePeople_85 rfl (by decide) ?_
  refine e_icmpI (pc' := 90) (t := 103) dX8_takePeople_87 (by decide) rfl ⟨by omega, by omega⟩ ⟨by omega, by omega⟩ (fun c2_14 => absurd (show 15 ≤ (13 : Int) from c2_14) (by decide)) (fun _ => ?_)
  refine e_aload_n (pc' := 91) dX8_takePeople_90 rfl rfl ?_
  refine e_getR (pc' := 94) dX8_takePeople_91 rfl f_8_24 h_56 rfl ?_
  refine e_iload_n (pc' := 95) dX8_takePeople_94 rfl rfl ?_
  refine e_iconst (pc' := 96) dX8_takePeople_95 rfl ?_
  refine e_iast (pc' := 97) dX8_takePeople_96 rfl h_61 (by decide) (by omega) (by omega) ?_
  refine e_iinc (pc' := 100) (L' := [some (rv 56), some (rv 1), some (iv 14)]) dX8_takePeople_97 rfl rfl (by decide) rfl ?_
  refine e_goto (pc' := 84) dX8_takePeople_100 (by decide) ?_
  refine e_iload_n (pc' := 85) dX8_takePeople_84 rfl rfl ?_
  refine e_bipush (pc' := 87) (z := 15) dX8_takePeople_85 rfl (by decide) ?_
  refine e_icmpI (pc' := 90) (t := 103) dX8_takePeople_87 (by decide) rfl ⟨by omega, by omega⟩ ⟨by omega, by omega⟩ (fun c2_15 => absurd (show 15 ≤ (14 : Int) from c2_15) (by decide)) (fun _ => ?_)
  refine e_aload_n (pc' := 91) dX8_takePeople_90 rfl rfl ?_
  refine e_getR (pc' := 94) dX8_takePeople_91 rfl f_8_24 h_56 rfl ?_
  refine e_iload_n (pc' := 95) dX8_takePeople_94 rfl rfl ?_
  refine e_iconst (pc' := 96) dX8_takePeople_95 rfl ?_
  refine e_iast (pc' := 97) dX8_takePeople_96 rfl h_61 (by decide) (by omega) (by omega) ?_
  refine e_iinc (pc' := 100) (L' := [some (rv 56), some (rv 1), some (iv 15)]) dX8_takePeople_97 rfl rfl (by decide) rfl ?_
  refine e_goto (pc' := 84) dX8_takePeople_100 (by decide) ?_
  refine e_iload_n (pc' := 85) dX8_takePeople_84 rfl rfl ?_
  refine e_bipush (pc' := 87) (z := 15) dX8_takePeople_85 rfl (by decide) ?_
  refine e_icmpI (pc' := 90) (t := 103) dX8_takePeople_87 (by decide) rfl ⟨by omega, by omega⟩ ⟨by omega, by omega⟩ (fun _ => ?_) (fun c2_16 => absurd (show 15 ≤ (15 : Int) by decide) c2_16)
  exact e_vret dX8_takePeople_103 rfl ⟨rfl, Nat.le_refl _⟩ ⟨rfl, ⟨⟨rfl, rfl, rfl⟩, ⟨rfl, rfl, rfl⟩, fun j a b => cpy0 a b, fun j a b => cpy0 a b, fun j a b => ⟨cpy0 a b, cpy0 a b⟩, zero15 rfl rfl rfl rfl rfl rfl rfl rfl rfl rfl rfl rfl rfl rfl rfl⟩, (by repeat (first | exact Fr.rf | (refine fr_I ?_ (by decide)) | (refine fr_J ?_ (by decide)) | (refine fr_C ?_ (by decide))))⟩

set_option maxHeartbeats 4000000 in
set_option maxRecDepth 100000 in
theorem s_rtake_63_8 {X : AX} {d : Nat} {σ : SG} : Ev X 0 0 (d + 1) mX7_take 0 [some (rv 63), some (rv 8)] [] σ (QV (fun σ' => RlEq σ' 63 σ 8 ∧ Fr [63, 64, 65] σ σ')) := by
  refine e_aload_n (pc' := 1) dX7_take_0 rfl rfl ?_
  refine e_getR (pc' := 4) dX7_take_1 rfl f_7_9 h_8 rfl ?_
  refine e_iconst (pc' := 5) dX7_take_4 rfl ?_
  refine e_aload_n (pc' := 6) dX7_take_5 rfl rfl ?_
  refine e_getR (pc' := 9) dX7_take_6 rfl f_7_9 h_63 rfl ?_
  refine e_iconst (pc' := 10) dX7_take_9 rfl ?_
  refine e_bipush (pc' := 12) (z := 40) dX7_take_10 rfl (by decide) ?_
  refine e_copy (pc' := 15) dX7_take_12 rfl p_7_28 h_9 h_64 ⟨by omega, by omega, by omega, by omega, by omega, by decide, by decide⟩ (Nat.le_of_ble_eq_true rfl) ?_
  refine e_aload_n (pc' := 16) dX7_take_15 rfl rfl ?_
  refine e_getR (pc' := 19) dX7_take_16 rfl f_7_15 h_8 rfl ?_
  refine e_iconst (pc' := 20) dX7_take_19 rfl ?_
  refine e_aload_n (pc' := 21) dX7_take_20 rfl rfl ?_
  refine e_getR (pc' := 24) dX7_take_21 rfl f_7_15 h_63 rfl ?_
  refine e_iconst (pc' := 25) dX7_take_24 rfl ?_
  refine e_bipush (pc' := 27) (z := 40) dX7_take_25 rfl (by decide) ?_
  refine e_copy (pc' := 30) dX7_take_27 rfl p_7_28 h_10 h_65 ⟨by omega, by omega, by omega, by omega, by omega, by decide, by decide⟩ (Nat.le_of_ble_eq_true rfl) ?_
  refine e_aload_n (pc' := 31) dX7_take_30 rfl rfl ?_
  refine e_aload_n (pc' := 32) dX7_take_31 rfl rfl ?_
  refine e_getI (pc' := 35) (v := (σ.1 8 2)) dX7_take_32 rfl f_7_18 h_8 rfl rfl ?_
  refine e_putI (pc' := 38) dX7_take_35 rfl f_7_18 h_63 rfl rfl rfl ?_
  refine e_aload_n (pc' := 39) dX7_take_38 rfl rfl ?_
  refine e_aload_n (pc' := 40) dX7_take_39 rfl rfl ?_
  refine e_getI (pc' := 43) (v := (σ.1 8 3)) dX7_take_40 rfl f_7_22 h_8 rfl rfl ?_
  refine e_putI (pc' := 46) dX7_take_43 rfl f_7_22 h_63 rfl rfl rfl ?_
  refine e_aload_n (pc' := 47) dX7_take_46 rfl rfl ?_
  refine e_aload_n (pc' := 48) dX7_take_47 rfl rfl ?_
  refine e_getI (pc' := 51) (v := (σ.1 8 4)) dX7_take_48 rfl f_7_25 h_8 rfl rfl ?_
  refine e_putI (pc' := 54) dX7_take_51 rfl f_7_25 h_63 rfl rfl rfl ?_
  exact e_vret dX7_take_54 rfl ⟨rfl, Nat.le_refl _⟩ ⟨rfl, ⟨⟨rfl, rfl, rfl⟩, fun j a b => ⟨cpy0 a b, cpy0 a b⟩⟩, (by repeat (first | exact Fr.rf | (refine fr_I ?_ (by decide)) | (refine fr_J ?_ (by decide)) | (refine fr_C ?_ (by decide))))⟩

set_option maxHeartbeats 4000000 in
set_option maxRecDepth 100000 in
theorem s_rtake_66_11 {X : AX} {d : Nat} {σ : SG} : Ev X 0 0 (d + 1) mX7_take 0 [some (rv 66), some (rv 11)] [] σ (QV (fun σ' => RlEq σ' 66 σ 11 ∧ Fr [66, 67, 68] σ σ')) := by
  refine e_aload_n (pc' := 1) dX7_take_0 rfl rfl ?_
  refine e_getR (pc' := 4) dX7_take_1 rfl f_7_9 h_11 rfl ?_
  refine e_iconst (pc' := 5) dX7_take_4 rfl ?_
  refine e_aload_n (pc' := 6) dX7_take_5 rfl rfl ?_
  refine e_getR (pc' := 9) dX7_take_6 rfl f_7_9 h_66 rfl ?_
  refine e_iconst (pc' := 10) dX7_take_9 rfl ?_
  refine e_bipush (pc' := 12) (z := 40) dX7_take_10 rfl (by decide) ?_
  refine e_copy (pc' := 15) dX7_take_12 rfl p_7_28 h_12 h_67 ⟨by omega, by omega, by omega, by omega, by omega, by decide, by decide⟩ (Nat.le_of_ble_eq_true rfl) ?_
  refine e_aload_n (pc' := 16) dX7_take_15 rfl rfl ?_
  refine e_getR (pc' := 19) dX7_take_16 rfl f_7_15 h_11 rfl ?_
  refine e_iconst (pc' := 20) dX7_take_19 rfl ?_
  refine e_aload_n (pc' := 21) dX7_take_20 rfl rfl ?_
  refine e_getR (pc' := 24) dX7_take_21 rfl f_7_15 h_66 rfl ?_
  refine e_iconst (pc' := 25) dX7_take_24 rfl ?_
  refine e_bipush (pc' := 27) (z := 40) dX7_take_25 rfl (by decide) ?_
  refine e_copy (pc' := 30) dX7_take_27 rfl p_7_28 h_13 h_68 ⟨by omega, by omega, by omega, by omega, by omega, by decide, by decide⟩ (Nat.le_of_ble_eq_true rfl) ?_
  refine e_aload_n (pc' := 31) dX7_take_30 rfl rfl ?_
  refine e_aload_n (pc' := 32) dX7_take_31 rfl rfl ?_
  refine e_getI (pc' := 35) (v := (σ.1 11 2)) dX7_take_32 rfl f_7_18 h_11 rfl rfl ?_
  refine e_putI (pc' := 38) dX7_take_35 rfl f_7_18 h_66 rfl rfl rfl ?_
  refine e_aload_n (pc' := 39) dX7_take_38 rfl rfl ?_
  refine e_aload_n (pc' := 40) dX7_take_39 rfl rfl ?_
  refine e_getI (pc' := 43) (v := (σ.1 11 3)) dX7_take_40 rfl f_7_22 h_11 rfl rfl ?_
  refine e_putI (pc' := 46) dX7_take_43 rfl f_7_22 h_66 rfl rfl rfl ?_
  refine e_aload_n (pc' := 47) dX7_take_46 rfl rfl ?_
  refine e_aload_n (pc' := 48) dX7_take_47 rfl rfl ?_
  refine e_getI (pc' := 51) (v := (σ.1 11 4)) dX7_take_48 rfl f_7_25 h_11 rfl rfl ?_
  refine e_putI (pc' := 54) dX7_take_51 rfl f_7_25 h_66 rfl rfl rfl ?_
  exact e_vret dX7_take_54 rfl ⟨rfl, Nat.le_refl _⟩ ⟨rfl, ⟨⟨rfl, rfl, rfl⟩, fun j a b => ⟨cpy0 a b, cpy0 a b⟩⟩, (by repeat (first | exact Fr.rf | (refine fr_I ?_ (by decide)) | (refine fr_J ?_ (by decide)) | (refine fr_C ?_ (by decide))))⟩

set_option maxHeartbeats 4000000 in
set_option maxRecDepth 100000 in
theorem s_rtake_69_14 {X : AX} {d : Nat} {σ : SG} : Ev X 0 0 (d + 1) mX7_take 0 [some (rv 69), some (rv 14)] [] σ (QV (fun σ' => RlEq σ' 69 σ 14 ∧ Fr [69, 70, 71] σ σ')) := by
  refine e_aload_n (pc' := 1) dX7_take_0 rfl rfl ?_
  refine e_getR (pc' := 4) dX7_take_1 rfl f_7_9 h_14 rfl ?_
  refine e_iconst (pc' := 5) dX7_take_4 rfl ?_
  refine e_aload_n (pc' := 6) dX7_take_5 rfl rfl ?_
  refine e_getR (pc' := 9) dX7_take_6 rfl f_7_9 h_69 rfl ?_
  refine e_iconst (pc' := 10) dX7_take_9 rfl ?_
  refine e_bipush (pc' := 12) (z := 40) dX7_take_10 rfl (by decide) ?_
  refine e_copy (pc' := 15) dX7_take_12 rfl p_7_28 h_15 h_70 ⟨by omega, by omega, by omega, by omega, by omega, by decide, by decide⟩ (Nat.le_of_ble_eq_true rfl) ?_
  refine e_aload_n (pc' := 16) dX7_take_15 rfl rfl ?_
  refine e_getR (pc' := 19) dX7_take_16 rfl f_7_15 h_14 rfl ?_
  refine e_iconst (pc' := 20) dX7_take_19 rfl ?_
  refine e_aload_n (pc' := 21) dX7_take_20 rfl rfl ?_
  refine e_getR (pc' := 24) dX7_take_21 rfl f_7_15 h_69 rfl ?_
  refine e_iconst (pc' := 25) dX7_take_24 rfl ?_
  refine e_bipush (pc' := 27) (z := 40) dX7_take_25 rfl (by decide) ?_
  refine e_copy (pc' := 30) dX7_take_27 rfl p_7_28 h_16 h_71 ⟨by omega, by omega, by omega, by omega, by omega, by decide, by decide⟩ (Nat.le_of_ble_eq_true rfl) ?_
  refine e_aload_n (pc' := 31) dX7_take_30 rfl rfl ?_
  refine e_aload_n (pc' := 32) dX7_take_31 rfl rfl ?_
  refine e_getI (pc' := 35) (v := (σ.1 14 2)) dX7_take_32 rfl f_7_18 h_14 rfl rfl ?_
  refine e_putI (pc' := 38) dX7_take_35 rfl f_7_18 h_69 rfl rfl rfl ?_
  refine e_aload_n (pc' := 39) dX7_take_38 rfl rfl ?_
  refine e_aload_n (pc' := 40) dX7_take_39 rfl rfl ?_
  refine e_getI (pc' := 43) (v := (σ.1 14 3)) dX7_take_40 rfl f_7_22 h_14 rfl rfl ?_
  refine e_putI (pc' := 46) dX7_take_43 rfl f_7_22 h_69 rfl rfl rfl ?_
  refine e_aload_n (pc' := 47) dX7_take_46 rfl rfl ?_
  refine e_aload_n (pc' := 48) dX7_take_47 rfl rfl ?_
  refine e_getI (pc' := 51) (v := (σ.1 14 4)) dX7_take_48 rfl f_7_25 h_14 rfl rfl ?_
  refine e_putI (pc' := 54) dX7_take_51 rfl f_7_25 h_69 rfl rfl rfl ?_
  exact e_vret dX7_take_54 rfl ⟨rfl, Nat.le_refl _⟩ ⟨rfl, ⟨⟨rfl, rfl, rfl⟩, fun j a b => ⟨cpy0 a b, cpy0 a b⟩⟩, (by repeat (first | exact Fr.rf | (refine fr_I ?_ (by decide)) | (refine fr_J ?_ (by decide)) | (refine fr_C ?_ (by decide))))⟩

set_option maxHeartbeats 4000000 in
set_option maxRecDepth 100000 in
theorem s_take_56_1 {X : AX} {d : Nat} {σ : SG} : Ev X 0 0 (d + 2) mX8_take 0 [some (rv 56), some (rv 1), none] [] σ (QV (fun σ' => SnEq σ' 56 σ 1 ∧ Fr [56, 57, 58, 59, 60, 61, 63, 64, 65, 66, 67, 68, 69, 70, 71] σ σ')) := by
  refine e_aload_n (pc' := 1) dX8_take_0 rfl rfl ?_
  refine e_aload_n (pc' := 2) dX8_take_1 rfl rfl ?_
  refine e_cv1v (pc' := 5) dX8_take_2 rfl k_8_53 h_56 rfl (Nat.le_of_ble_eq_true rfl) rfl rfl ⟨rfl, rfl⟩ ⟨Nat.zero_le _, Nat.zero_le _⟩ s_takePeople_56_1 ?_
  rintro τ1 ⟨hP1, hG1⟩
  refine e_aload_n (pc' := 6) dX8_take_5 rfl rfl ?_
  refine e_getR (pc' := 9) dX8_take_6 rfl f_8_24 h_1 rfl ?_
  refine e_iconst (pc' := 10) dX8_take_9 rfl ?_
  refine e_aload_n (pc' := 11) dX8_take_10 rfl rfl ?_
  refine e_getR (pc' := 14) dX8_take_11 rfl f_8_24 h_56 rfl ?_
  refine e_iconst (pc' := 15) dX8_take_14 rfl ?_
  refine e_bipush (pc' := 17) (z := 15) dX8_take_15 rfl (by decide) ?_
  refine e_copy (pc' := 20) dX8_take_17 rfl p_8_57 h_6 h_61 ⟨by omega, by omega, by omega, by omega, by omega, by decide, by decide⟩ (Nat.le_of_ble_eq_true rfl) ?_
  refine e_iconst (pc' := 21) dX8_take_20 rfl ?_
  refine e_istore_n (pc' := 22) (L' := [some (rv 56), some (rv 1), some (iv 0)]) dX8_take_21 rfl (by decide) rfl ?_
  refine e_iload_n (pc' := 23) dX8_take_22 rfl rfl ?_
  refine e_iconst (pc' := 24) dX8_take_23 rfl ?_
  refine e_icmpI (pc' := 27) (t := 48) dX8_take_24 (by decide) rfl ⟨by omega, by omega⟩ ⟨by omega, by omega⟩ (fun c2_1 => absurd (show 3 ≤ (0 : Int) from c2_1) (by decide)) (fun _ => ?_)
  refine e_aload_n (pc' := 28) dX8_take_27 rfl rfl ?_
  refine e_getR (pc' := 31) dX8_take_28 rfl f_8_29 h_56 rfl ?_
  refine e_iload_n (pc' := 32) dX8_take_31 rfl rfl ?_
  refine e_aald (pc' := 33) (k := 63) dX8_take_32 rfl h_62 (by decide) (by decide) (by omega) (by omega) rfl ?_
  refine e_aload_n (pc' := 34) dX8_take_33 rfl rfl ?_
  refine e_getR (pc' := 37) dX8_take_34 rfl f_8_29 h_1 rfl ?_
  refine e_iload_n (pc' := 38) dX8_take_37 rfl rfl ?_
  refine e_aald (pc' := 39) (k := 8) dX8_take_38 rfl h_7 (by decide) (by decide) (by omega) (by omega) rfl ?_
  refine e_cv1v (pc' := 42) dX8_take_39 rfl k_8_63 h_63 rfl (Nat.le_of_ble_eq_true rfl) rfl rfl ⟨rfl, rfl⟩ ⟨Nat.zero_le _, Nat.zero_le _⟩ s_rtake_63_8 ?_
  rintro τ2 ⟨hP2, hG2⟩
  refine e_iinc (pc' := 45) (L' := [some (rv 56), some (rv 1), some (iv 1)]) dX8_take_42 rfl rfl (by decide) rfl ?_
  refine e_goto (pc' := 22) dX8_take_45 (by decide) ?_
  refine e_iload_n (pc' := 23) dX8_take_22 rfl rfl ?_
  refine e_iconst (pc' := 24) dX8_take_23 rfl ?_
  refine e_icmpI (pc' := 27) (t := 48) dX8_take_24 (by decide) rfl ⟨by omega, by omega⟩ ⟨by omega, by omega⟩ (fun c2_2 => absurd (show 3 ≤ (1 : Int) from c2_2) (by decide)) (fun _ => ?_)
  refine e_aload_n (pc' := 28) dX8_take_27 rfl rfl ?_
  refine e_getR (pc' := 31) dX8_take_28 rfl f_8_29 h_56 rfl ?_
  refine e_iload_n (pc' := 32) dX8_take_31 rfl rfl ?_
  refine e_aald (pc' := 33) (k := 66) dX8_take_32 rfl h_62 (by decide) (by decide) (by omega) (by omega) rfl ?_
  refine e_aload_n (pc' := 34) dX8_take_33 rfl rfl ?_
  refine e_getR (pc' := 37) dX8_take_34 rfl f_8_29 h_1 rfl ?_
  refine e_iload_n (pc' := 38) dX8_take_37 rfl rfl ?_
  refine e_aald (pc' := 39) (k := 11) dX8_take_38 rfl h_7 (by decide) (by decide) (by omega) (by omega) rfl ?_
  refine e_cv1v (pc' := 42) dX8_take_39 rfl k_8_63 h_66 rfl (Nat.le_of_ble_eq_true rfl) rfl rfl ⟨rfl, rfl⟩ ⟨Nat.zero_le _, Nat.zero_le _⟩ s_rtake_66_11 ?_
  rintro τ3 ⟨hP3, hG3⟩
  refine e_iinc (pc' := 45) (L' := [some (rv 56), some (rv 1), some (iv 2)]) dX8_take_42 rfl rfl (by decide) rfl ?_
  refine e_goto (pc' := 22) dX8_take_45 (by decide) ?_
  refine e_iload_n (pc' := 23) dX8_take_22 rfl rfl ?_
  refine e_iconst (pc' := 24) dX8_take_23 rfl ?_
  refine e_icmpI (pc' := 27) (t := 48) dX8_take_24 (by decide) rfl ⟨by omega, by omega⟩ ⟨by omega, by omega⟩ (fun c2_3 => absurd (show 3 ≤ (2 : Int) from c2_3) (by decide)) (fun _ => ?_)
  refine e_aload_n (pc' := 28) dX8_take_27 rfl rfl ?_
  refine e_getR (pc' := 31) dX8_take_28 rfl f_8_29 h_56 rfl ?_
  refine e_iload_n (pc' := 32) dX8_take_31 rfl rfl ?_
  refine e_aald (pc' := 33) (k := 69) dX8_take_32 rfl h_62 (by decide) (by decide) (by omega) (by omega) rfl ?_
  refine e_aload_n (pc' := 34) dX8_take_33 rfl rfl ?_
  refine e_getR (pc' := 37) dX8_take_34 rfl f_8_29 h_1 rfl ?_
  refine e_iload_n (pc' := 38) dX8_take_37 rfl rfl ?_
  refine e_aald (pc' := 39) (k := 14) dX8_take_38 rfl h_7 (by decide) (by decide) (by omega) (by omega) rfl ?_
  refine e_cv1v (pc' := 42) dX8_take_39 rfl k_8_63 h_69 rfl (Nat.le_of_ble_eq_true rfl) rfl rfl ⟨rfl, rfl⟩ ⟨Nat.zero_le _, Nat.zero_le _⟩ s_rtake_69_14 ?_
  rintro τ4 ⟨hP4, hG4⟩
  refine e_iinc (pc' := 45) (L' := [some (rv 56), some (rv 1), some (iv 3)]) dX8_take_42 rfl rfl (by decide) rfl ?_
  refine e_goto (pc' := 22) dX8_take_45 (by decide) ?_
  refine e_iload_n (pc' := 23) dX8_take_22 rfl rfl ?_
  refine e_iconst (pc' := 24) dX8_take_23 rfl ?_
  refine e_icmpI (pc' := 27) (t := 48) dX8_take_24 (by decide) rfl ⟨by omega, by omega⟩ ⟨by omega, by omega⟩ (fun _ => ?_) (fun c2_4 => absurd (show 3 ≤ (3 : Int) by decide) c2_4)
  refine e_aload_n (pc' := 49) dX8_take_48 rfl rfl ?_
  refine e_aload_n (pc' := 50) dX8_take_49 rfl rfl ?_
  refine e_getI (pc' := 53) (v := (σ.1 1 9)) dX8_take_50 rfl f_8_43 h_1 rfl ((congrFun (hG4 1 (by decide)).1 9).trans ((congrFun (hG3 1 (by decide)).1 9).trans ((congrFun (hG2 1 (by decide)).1 9).trans ((congrFun (hG1 1 (by decide)).1 9).trans rfl)))) ?_
  refine e_putI (pc' := 56) dX8_take_53 rfl f_8_43 h_56 rfl rfl rfl ?_
  refine e_aload_n (pc' := 57) dX8_take_56 rfl rfl ?_
  refine e_aload_n (pc' := 58) dX8_take_57 rfl rfl ?_
  refine e_getI (pc' := 61) (v := (σ.1 1 10)) dX8_take_58 rfl f_8_46 h_1 rfl ((congrFun (hG4 1 (by decide)).1 10).trans ((congrFun (hG3 1 (by decide)).1 10).trans ((congrFun (hG2 1 (by decide)).1 10).trans ((congrFun (hG1 1 (by decide)).1 10).trans rfl)))) ?_
  refine e_putI (pc' := 64) dX8_take_61 rfl f_8_46 h_56 rfl rfl rfl ?_
  refine e_aload_n (pc' := 65) dX8_take_64 rfl rfl ?_
  refine e_aload_n (pc' := 66) dX8_take_65 rfl rfl ?_
  refine e_getI (pc' := 69) (v := (σ.1 1 11)) dX8_take_66 rfl f_8_49 h_1 rfl ((congrFun (hG4 1 (by decide)).1 11).trans ((congrFun (hG3 1 (by decide)).1 11).trans ((congrFun (hG2 1 (by decide)).1 11).trans ((congrFun (hG1 1 (by decide)).1 11).trans rfl)))) ?_
  refine e_putI (pc' := 72) dX8_take_69 rfl f_8_49 h_56 rfl rfl rfl ?_
  exact e_vret dX8_take_72 rfl ⟨rfl, Nat.le_refl _⟩ (by
        have q56 : τ4.1 56 = ((upC τ1 61 (cpyA (τ1.1 6) (τ1.1 61) 0 0 15))).1 56 := (hG4 56 (by decide)).1.trans ((hG3 56 (by decide)).1.trans (hG2 56 (by decide)).1)
        have q57 : τ4.1 57 = ((upC τ1 61 (cpyA (τ1.1 6) (τ1.1 61) 0 0 15))).1 57 := (hG4 57 (by decide)).1.trans ((hG3 57 (by decide)).1.trans (hG2 57 (by decide)).1)
        have q58 : τ4.1 58 = ((upC τ1 61 (cpyA (τ1.1 6) (τ1.1 61) 0 0 15))).1 58 := (hG4 58 (by decide)).1.trans ((hG3 58 (by decide)).1.trans (hG2 58 (by decide)).1)
        have q59 : τ4.1 59 = ((upC τ1 61 (cpyA (τ1.1 6) (τ1.1 61) 0 0 15))).1 59 := (hG4 59 (by decide)).1.trans ((hG3 59 (by decide)).1.trans (hG2 59 (by decide)).1)
        have q60 : τ4.1 60 = ((upC τ1 61 (cpyA (τ1.1 6) (τ1.1 61) 0 0 15))).1 60 := (hG4 60 (by decide)).1.trans ((hG3 60 (by decide)).1.trans (hG2 60 (by decide)).1)
        have q61 : τ4.1 61 = ((upC τ1 61 (cpyA (τ1.1 6) (τ1.1 61) 0 0 15))).1 61 := (hG4 61 (by decide)).1.trans ((hG3 61 (by decide)).1.trans (hG2 61 (by decide)).1)
        have c5 : τ1.1 6 = σ.1 6 := (hG1 6 (by decide)).1
        have a00 : τ4.1 63 = τ2.1 63 := (hG4 63 (by decide)).1.trans (hG3 63 (by decide)).1
        have b00 : ((upC τ1 61 (cpyA (τ1.1 6) (τ1.1 61) 0 0 15))).1 8 = σ.1 8 := (show ((upC τ1 61 (cpyA (τ1.1 6) (τ1.1 61) 0 0 15))).1 8 = σ.1 8 from (hG1 8 (by decide)).1)
        have a01 : τ4.1 64 = τ2.1 64 := (hG4 64 (by decide)).1.trans (hG3 64 (by decide)).1
        have b01 : ((upC τ1 61 (cpyA (τ1.1 6) (τ1.1 61) 0 0 15))).1 9 = σ.1 9 := (show ((upC τ1 61 (cpyA (τ1.1 6) (τ1.1 61) 0 0 15))).1 9 = σ.1 9 from (hG1 9 (by decide)).1)
        have a02 : τ4.1 65 = τ2.1 65 := (hG4 65 (by decide)).1.trans (hG3 65 (by decide)).1
        have b02 : ((upC τ1 61 (cpyA (τ1.1 6) (τ1.1 61) 0 0 15))).1 10 = σ.1 10 := (show ((upC τ1 61 (cpyA (τ1.1 6) (τ1.1 61) 0 0 15))).1 10 = σ.1 10 from (hG1 10 (by decide)).1)
        have a10 : τ4.1 66 = τ3.1 66 := (hG4 66 (by decide)).1
        have b10 : (τ2).1 11 = σ.1 11 := (hG2 11 (by decide)).1.trans (show ((upC τ1 61 (cpyA (τ1.1 6) (τ1.1 61) 0 0 15))).1 11 = σ.1 11 from (hG1 11 (by decide)).1)
        have a11 : τ4.1 67 = τ3.1 67 := (hG4 67 (by decide)).1
        have b11 : (τ2).1 12 = σ.1 12 := (hG2 12 (by decide)).1.trans (show ((upC τ1 61 (cpyA (τ1.1 6) (τ1.1 61) 0 0 15))).1 12 = σ.1 12 from (hG1 12 (by decide)).1)
        have a12 : τ4.1 68 = τ3.1 68 := (hG4 68 (by decide)).1
        have b12 : (τ2).1 13 = σ.1 13 := (hG2 13 (by decide)).1.trans (show ((upC τ1 61 (cpyA (τ1.1 6) (τ1.1 61) 0 0 15))).1 13 = σ.1 13 from (hG1 13 (by decide)).1)
        have a20 : τ4.1 69 = τ4.1 69 := rfl
        have b20 : (τ3).1 14 = σ.1 14 := (hG3 14 (by decide)).1.trans ((hG2 14 (by decide)).1.trans (show ((upC τ1 61 (cpyA (τ1.1 6) (τ1.1 61) 0 0 15))).1 14 = σ.1 14 from (hG1 14 (by decide)).1))
        have a21 : τ4.1 70 = τ4.1 70 := rfl
        have b21 : (τ3).1 15 = σ.1 15 := (hG3 15 (by decide)).1.trans ((hG2 15 (by decide)).1.trans (show ((upC τ1 61 (cpyA (τ1.1 6) (τ1.1 61) 0 0 15))).1 15 = σ.1 15 from (hG1 15 (by decide)).1))
        have a22 : τ4.1 71 = τ4.1 71 := rfl
        have b22 : (τ3).1 16 = σ.1 16 := (hG3 16 (by decide)).1.trans ((hG2 16 (by decide)).1.trans (show ((upC τ1 61 (cpyA (τ1.1 6) (τ1.1 61) 0 0 15))).1 16 = σ.1 16 from (hG1 16 (by decide)).1))
        have hF4 : Fr [56, 57, 58, 59, 60, 61, 63, 64, 65, 66, 67, 68, 69, 70, 71] σ τ4 := (fr_C (hG1.mono (by decide)) (by decide)).tr ((hG2.mono (by decide)).tr ((hG3.mono (by decide)).tr (hG4.mono (by decide))))
        refine ⟨rfl, ⟨⟨(congrFun q56 6).trans hP1.1.1, (congrFun q56 7).trans hP1.1.2.1, (congrFun q56 8).trans hP1.1.2.2⟩, ⟨rfl, rfl, rfl⟩, fun j a b => (congrFun q57 j).trans (hP1.2.2.1 j a b), fun j a b => (congrFun q58 j).trans (hP1.2.2.2.1 j a b), fun j a b => ⟨(congrFun q59 j).trans (hP1.2.2.2.2.1 j a b).1, (congrFun q60 j).trans (hP1.2.2.2.2.1 j a b).2⟩, fun j a b => (congrFun q61 j).trans ((cpy0 a b).trans (congrFun c5 j)), ?_, ?_, ?_⟩, fr_I (fr_I (fr_I hF4 (by decide)) (by decide)) (by decide)⟩
        · exact hP2.cg a00 a01 a02 b00 b01 b02
        · exact hP3.cg a10 a11 a12 b10 b11 b12
        · exact hP4.cg a20 a21 a22 b20 b21 b22)

set_option maxHeartbeats 4000000 in
set_option maxRecDepth 100000 in
theorem s_takePeople_72_1 {X : AX} {d : Nat} {σ : SG} : Ev X 0 0 (d + 1) mX8_takePeople 0 [some (rv 72), some (rv 1), none] [] σ (QV (fun σ' => PeI σ' 72 σ 1 ∧ Fr [72, 73, 74, 75, 76, 77] σ σ')) := by
  refine e_aload_n (pc' := 1) dX8_takePeople_0 rfl rfl ?_
  refine e_getR (pc' := 4) dX8_takePeople_1 rfl f_8_9 h_1 rfl ?_
  refine e_iconst (pc' := 5) dX8_takePeople_4 rfl ?_
  refine e_aload_n (pc' := 6) dX8_takePeople_5 rfl rfl ?_
  refine e_getR (pc' := 9) dX8_takePeople_6 rfl f_8_9 h_72 rfl ?_
  refine e_iconst (pc' := 10) dX8_takePeople_9 rfl ?_
  refine e_iconst (pc' := 11) dX8_takePeople_10 rfl ?_
  refine e_copy (pc' := 14) dX8_takePeople_11 rfl p_8_57 h_2 h_73 ⟨by omega, by omega, by omega, by omega, by omega, by decide, by decide⟩ (Nat.le_of_ble_eq_true rfl) ?_
  refine e_aload_n (pc' := 15) dX8_takePeople_14 rfl rfl ?_
  refine e_getR (pc' := 18) dX8_takePeople_15 rfl f_8_15 h_1 rfl ?_
  refine e_iconst (pc' := 19) dX8_takePeople_18 rfl ?_
  refine e_aload_n (pc' := 20) dX8_takePeople_19 rfl rfl ?_
  refine e_getR (pc' := 23) dX8_takePeople_20 rfl f_8_15 h_72 rfl ?_
  refine e_iconst (pc' := 24) dX8_takePeople_23 rfl ?_
  refine e_iconst (pc' := 25) dX8_takePeople_24 rfl ?_
  refine e_copy (pc' := 28) dX8_takePeople_25 rfl p_8_57 h_3 h_74 ⟨by omega, by omega, by omega, by omega, by omega, by decide, by decide⟩ (Nat.le_of_ble_eq_true rfl) ?_
  refine e_aload_n (pc' := 29) dX8_takePeople_28 rfl rfl ?_
  refine e_getR (pc' := 32) dX8_takePeople_29 rfl f_8_18 h_1 rfl ?_
  refine e_iconst (pc' := 33) dX8_takePeople_32 rfl ?_
  refine e_aload_n (pc' := 34) dX8_takePeople_33 rfl rfl ?_
  refine e_getR (pc' := 37) dX8_takePeople_34 rfl f_8_18 h_72 rfl ?_
  refine e_iconst (pc' := 38) dX8_takePeople_37 rfl ?_
  refine e_bipush (pc' := 40) (z := 15) dX8_takePeople_38 rfl (by decide) ?_
  refine e_copy (pc' := 43) dX8_takePeople_40 rfl p_8_57 h_4 h_75 ⟨by omega, by omega, by omega, by omega, by omega, by decide, by decide⟩ (Nat.le_of_ble_eq_true rfl) ?_
  refine e_aload_n (pc' := 44) dX8_takePeople_43 rfl rfl ?_
  refine e_getR (pc' := 47) dX8_takePeople_44 rfl f_8_21 h_1 rfl ?_
  refine e_iconst (pc' := 48) dX8_takePeople_47 rfl ?_
  refine e_aload_n (pc' := 49) dX8_takePeople_48 rfl rfl ?_
  refine e_getR (pc' := 52) dX8_takePeople_49 rfl f_8_21 h_72 rfl ?_
  refine e_iconst (pc' := 53) dX8_takePeople_52 rfl ?_
  refine e_bipush (pc' := 55) (z := 15) dX8_takePeople_53 rfl (by decide) ?_
  refine e_copy (pc' := 58) dX8_takePeople_55 rfl p_8_57 h_5 h_76 ⟨by omega, by omega, by omega, by omega, by omega, by decide, by decide⟩ (Nat.le_of_ble_eq_true rfl) ?_
  refine e_aload_n (pc' := 59) dX8_takePeople_58 rfl rfl ?_
  refine e_aload_n (pc' := 60) dX8_takePeople_59 rfl rfl ?_
  refine e_getI (pc' := 63) (v := (σ.1 1 6)) dX8_takePeople_60 rfl f_8_33 h_1 rfl rfl ?_
  refine e_putI (pc' := 66) dX8_takePeople_63 rfl f_8_33 h_72 rfl rfl rfl ?_
  refine e_aload_n (pc' := 67) dX8_takePeople_66 rfl rfl ?_
  refine e_aload_n (pc' := 68) dX8_takePeople_67 rfl rfl ?_
  refine e_getI (pc' := 71) (v := (σ.1 1 7)) dX8_takePeople_68 rfl f_8_37 h_1 rfl rfl ?_
  refine e_putI (pc' := 74) dX8_takePeople_71 rfl f_8_37 h_72 rfl rfl rfl ?_
  refine e_aload_n (pc' := 75) dX8_takePeople_74 rfl rfl ?_
  refine e_aload_n (pc' := 76) dX8_takePeople_75 rfl rfl ?_
  refine e_getI (pc' := 79) (v := (σ.1 1 8)) dX8_takePeople_76 rfl f_8_40 h_1 rfl rfl ?_
  refine e_putI (pc' := 82) dX8_takePeople_79 rfl f_8_40 h_72 rfl rfl rfl ?_
  refine e_iconst (pc' := 83) dX8_takePeople_82 rfl ?_
  refine e_istore_n (pc' := 84) (L' := [some (rv 72), some (rv 1), some (iv 0)]) dX8_takePeople_83 rfl (by decide) rfl ?_
  refine e_iload_n (pc' := 85) dX8_takePeople_84 rfl rfl ?_
  refine e_bipush (pc' := 87) (z := 15) dX8_takePeople_85 rfl (by decide) ?_
  refine e_icmpI (pc' := 90) (t := 103) dX8_takePeople_87 (by decide) rfl ⟨by omega, by omega⟩ ⟨by omega, by omega⟩ (fun c2_1 => absurd (show 15 ≤ (0 : Int) from c2_1) (by decide)) (fun _ => ?_)
  refine e_aload_n (pc' := 91) dX8_takePeople_90 rfl rfl ?_
  refine e_getR (pc' := 94) dX8_takePeople_91 rfl f_8_24 h_72 rfl ?_
  refine e_iload_n (pc' := 95) dX8_takePeople_94 rfl rfl ?_
  refine e_iconst (pc' := 96) dX8_takePeople_95 rfl ?_
  refine e_iast (pc' := 97) dX8_takePeople_96 rfl h_77 (by decide) (by omega) (by omega) ?_
  refine e_iinc (pc' := 100) (L' := [some (rv 72), some (rv 1), some (iv 1)]) dX8_takePeople_97 rfl rfl (by decide) rfl ?_
  refine e_goto (pc' := 84) dX8_takePeople_100 (by decide) ?_
  refine e_iload_n (pc' := 85) dX8_takePeople_84 rfl rfl ?_
  refine e_bipush (pc' := 87) (z := 15) dX8_takePeople_85 rfl (by decide) ?_
  refine e_icmpI (pc' := 90) (t := 103) dX8_takePeople_87 (by decide) rfl ⟨by omega, by omega⟩ ⟨by omega, by omega⟩ (fun c2_2 => absurd (show 15 ≤ (1 : Int) from c2_2) (by decide)) (fun _ => ?_)
  refine e_aload_n (pc' := 91) dX8_takePeople_90 rfl rfl ?_
  refine e_getR (pc' := 94) dX8_takePeople_91 rfl f_8_24 h_72 rfl ?_
  refine e_iload_n (pc' := 95) dX8_takePeople_94 rfl rfl ?_
  refine e_iconst (pc' := 96) dX8_takePeople_95 rfl ?_
  refine e_iast (pc' := 97) dX8_takePeople_96 rfl h_77 (by decide) (by omega) (by omega) ?_
  refine e_iinc (pc' := 100) (L' := [some (rv 72), some (rv 1), some (iv 2)]) dX8_takePeople_97 rfl rfl (by decide) rfl ?_
  refine e_goto (pc' := 84) dX8_takePeople_100 (by decide) ?_
  refine e_iload_n (pc' := 85) dX8_takePeople_84 rfl rfl ?_
  refine e_bipush (pc' := 87) (z := 15) dX8_takePeople_85 rfl (by decide) ?_
  refine e_icmpI (pc' := 90) (t := 103) dX8_takePeople_87 (by decide) rfl ⟨by omega, by omega⟩ ⟨by omega, by omega⟩ (fun c2_3 => absurd (show 15 ≤ (2 : Int) from c2_3) (by decide)) (fun _ => ?_)
  refine e_aload_n (pc' := 91) dX8_takePeople_90 rfl rfl ?_
  refine e_getR (pc' := 94) dX8_takePeople_91 rfl f_8_24 h_72 rfl ?_
  refine e_iload_n (pc' := 95) dX8_takePeople_94 rfl rfl ?_
  refine e_iconst (pc' := 96) dX8_takePeople_95 rfl ?_
  refine e_iast (pc' := 97) dX8_takePeople_96 rfl h_77 (by decide) (by omega) (by omega) ?_
  refine e_iinc (pc' := 100) (L' := [some (rv 72), some (rv 1), some (iv 3)]) dX8_takePeople_97 rfl rfl (by decide) rfl ?_
  refine e_goto (pc' := 84) dX8_takePeople_100 (by decide) ?_
  refine e_iload_n (pc' := 85) dX8_takePeople_84 rfl rfl ?_
  refine e_bipush (pc' := 87) (z := 15) dX8_takePeople_85 rfl (by decide) ?_
  refine e_icmpI (pc' := 90) (t := 103) dX8_takePeople_87 (by decide) rfl ⟨by omega, by omega⟩ ⟨by omega, by omega⟩ (fun c2_4 => absurd (show 15 ≤ (3 : Int) from c2_4) (by decide)) (fun _ => ?_)
  refine e_aload_n (pc' := 91) dX8_takePeople_90 rfl rfl ?_
  refine e_getR (pc' := 94) dX8_takePeople_91 rfl f_8_24 h_72 rfl ?_
  refine e_iload_n (pc' := 95) dX8_takePeople_94 rfl rfl ?_
  refine e_iconst (pc' := 96) dX8_takePeople_95 rfl ?_
  refine e_iast (pc' := 97) dX8_takePeople_96 rfl h_77 (by decide) (by omega) (by omega) ?_
  refine e_iinc (pc' := 100) (L' := [some (rv 72), some (rv 1), some (iv 4)]) dX8_takePeople_97 rfl rfl (by decide) rfl ?_
  refine e_goto (pc' := 84) dX8_takePeople_100 (by decide) ?_
  refine e_iload_n (pc' := 85) dX8_takePeople_84 rfl rfl ?_
  refine e_bipush (pc' := 87) (z := 15) dX8_takePeople_85 rfl (by decide) ?_
  refine e_icmpI (pc' := 90) (t := 103) dX8_takePeople_87 (by decide) rfl ⟨by omega, by omega⟩ ⟨by omega, by omega⟩ (fun c2_5 => absurd (show 15 ≤ (4 : Int) from c2_5) (by decide)) (fun _ => ?_)
  refine e_aload_n (pc' := 91) dX8_takePeople_90 rfl rfl ?_
  refine e_getR (pc' := 94) dX8_takePeople_91 rfl f_8_24 h_72 rfl ?_
  refine e_iload_n (pc' := 95) dX8_takePeople_94 rfl rfl ?_
  refine e_iconst (pc' := 96) dX8_takePeople_95 rfl ?_
  refine e_iast (pc' := 97) dX8_takePeople_96 rfl h_77 (by decide) (by omega) (by omega) ?_
  refine e_iinc (pc' := 100) (L' := [some (rv 72), some (rv 1), some (iv 5)]) dX8_takePeople_97 rfl rfl (by decide) rfl ?_
  refine e_goto (pc' := 84) dX8_takePeople_100 (by decide) ?_
  refine e_iload_n (pc' := 85) dX8_takePeople_84 rfl rfl ?_
  refine e_bipush (pc' := 87) (z := 15) dX8_takePeople_85 rfl (by decide) ?_
  refine e_icmpI (pc' := 90) (t := 103) dX8_takePeople_87 (by decide) rfl ⟨by omega, by omega⟩ ⟨by omega, by omega⟩ (fun c2_6 => absurd (show 15 ≤ (5 : Int) from c2_6) (by decide)) (fun _ => ?_)
  refine e_aload_n (pc' := 91) dX8_takePeople_90 rfl rfl ?_
  refine e_getR (pc' := 94) dX8_takePeople_91 rfl f_8_24 h_72 rfl ?_
  refine e_iload_n (pc' := 95) dX8_takePeople_94 rfl rfl ?_
  refine e_iconst (pc' := 96) dX8_takePeople_95 rfl ?_
  refine e_iast (pc' := 97) dX8_takePeople_96 rfl h_77 (by decide) (by omega) (by omega) ?_
  refine e_iinc (pc' := 100) (L' := [some (rv 72), some (rv 1), some (iv 6)]) dX8_takePeople_97 rfl rfl (by decide) rfl ?_
  refine e_goto (pc' := 84) dX8_takePeople_100 (by decide) ?_
  refine e_iload_n (pc' := 85) dX8_takePeople_84 rfl rfl ?_
  refine e_bipush (pc' := 87) (z := 15) dX8_takePeople_85 rfl (by decide) ?_
  refine e_icmpI (pc' := 90) (t := 103) dX8_takePeople_87 (by decide) rfl ⟨by omega, by omega⟩ ⟨by omega, by omega⟩ (fun c2_7 => absurd (show 15 ≤ (6 : Int) from c2_7) (by decide)) (fun _ => ?_)
  refine e_aload_n (pc' := 91) dX8_takePeople_90 rfl rfl ?_
  refine e_getR (pc' := 94) dX8_takePeople_91 rfl f_8_24 h_72 rfl ?_
  refine e_iload_n (pc' := 95) dX8_takePeople_94 rfl rfl ?_
  refine e_iconst (pc' := 96) dX8_takePeople_95 rfl ?_
  refine e_iast (pc' := 97) dX8_takePeople_96 rfl h_77 (by decide) (by omega) (by omega) ?_
  refine e_iinc (pc' := 100) (L' := [some (rv 72), some (rv 1), some (iv 7)]) dX8_takePeople_97 rfl rfl (by decide) rfl ?_
  refine e_goto (pc' := 84) dX8_takePeople_100 (by decide) ?_
  refine e_iload_n (pc' := 85) dX8_takePeople_84 rfl rfl ?_
  refine e_bipush (pc' := 87) (z := 15) dX8_takePeople_85 rfl (by decide) ?_
  refine e_icmpI (pc' := 90) (t := 103) dX8_takePeople_87 (by decide) rfl ⟨by omega, by omega⟩ ⟨by omega, by omega⟩ (fun c2_8 => absurd (show 15 ≤ (7 : Int) from c2_8) (by decide)) (fun _ => ?_)
  refine e_aload_n (pc' := 91) dX8_takePeople_90 rfl rfl ?_
  refine e_getR (pc' := 94) dX8_takePeople_91 rfl f_8_24 h_72 rfl ?_
  refine e_iload_n (pc' := 95) dX8_takePeople_94 rfl rfl ?_
  refine e_iconst (pc' := 96) dX8_takePeople_95 rfl ?_
  refine e_iast (pc' := 97) dX8_takePeople_96 rfl h_77 (by decide) (by omega) (by omega) ?_
  refine e_iinc (pc' := 100) (L' := [some (rv 72), some (rv 1), some (iv 8)]) dX8_takePeople_97 rfl rfl (by decide) rfl ?_
  refine e_goto (pc' := 84) dX8_takePeople_100 (by decide) ?_
  refine e_iload_n (pc' := 85) dX8_takePeople_84 rfl rfl ?_
  refine e_bipush (pc' := 87) (z := 15) dX8_takePeople_85 rfl (by decide) ?_
  refine e_icmpI (pc' := 90) (t := 103) dX8_takePeople_87 (by decide) rfl ⟨by omega, by omega⟩ ⟨by omega, by omega⟩ (fun c2_9 => absurd (show 15 ≤ (8 : Int) from c2_9) (by decide)) (fun _ => ?_)
  refine e_aload_n (pc' := 91) dX8_takePeople_90 rfl rfl ?_
  refine e_getR (pc' := 94) dX8_takePeople_91 rfl f_8_24 h_72 rfl ?_
  refine e_iload_n (pc' := 95) dX8_takePeople_94 rfl rfl ?_
  refine e_iconst (pc' := 96) dX8_takePeople_95 rfl ?_
  refine e_iast (pc' := 97) dX8_takePeople_96 rfl h_77 (by decide) (by omega) (by omega) ?_
  refine e_iinc (pc' := 100) (L' := [some (rv 72), some (rv 1), some (iv 9)]) dX8_takePeople_97 rfl rfl (by decide) rfl ?_
  refine e_goto (pc' := 84) dX8_takePeople_100 (by decide) ?_
  refine e_iload_n (pc' := 85) dX8_takePeople_84 rfl rfl ?_
  refine e_bipush (pc' := 87) (z := 15) dX8_takePeople_85 rfl (by decide) ?_
  refine e_icmpI (pc' := 90) (t := 103) dX8_takePeople_87 (by decide) rfl ⟨by omega, by omega⟩ ⟨by omega, by omega⟩ (fun c2_10 => absurd (show 15 ≤ (9 : Int) from c2_10) (by decide)) (fun _ => ?_)
  refine e_aload_n (pc' := 91) dX8_takePeople_90 rfl rfl ?_
  refine e_getR (pc' := 94) dX8_takePeople_91 rfl f_8_24 h_72 rfl ?_
  refine e_iload_n (pc' := 95) dX8_takePeople_94 rfl rfl ?_
  refine e_iconst (pc' := 96) dX8_takePeople_95 rfl ?_
  refine e_iast (pc' := 97) dX8_takePeople_96 rfl h_77 (by decide) (by omega) (by omega) ?_
  refine e_iinc (pc' := 100) (L' := [some (rv 72), some (rv 1), some (iv 10)]) dX8_takePeople_97 rfl rfl (by decide) rfl ?_
  refine e_goto (pc' := 84) dX8_takePeople_100 (by decide) ?_
  refine e_iload_n (pc' := 85) dX8_takePeople_84 rfl rfl ?_
  refine e_bipush (pc' := 87) (z := 15) dX8_takePeople_85 rfl (by decide) ?_
  refine e_icmpI (pc' := 90) (t := 103) dX8_takePeople_87 (by decide) rfl ⟨by omega, by omega⟩ ⟨by omega, by omega⟩ (fun c2_11 => absurd (show 15 ≤ (10 : Int) from c2_11) (by decide)) (fun _ => ?_)
  refine e_aload_n (pc' := 91) dX8_takePeople_90 rfl rfl ?_
  refine e_getR (pc' := 94) dX8_takePeople_91 rfl f_8_24 h_72 rfl ?_
  refine e_iload_n (pc' := 95) dX8_takePeople_94 rfl rfl ?_
  refine e_iconst (pc' := 96) dX8_takePeople_95 rfl ?_
  refine e_iast (pc' := 97) dX8_takePeople_96 rfl h_77 (by decide) (by omega) (by omega) ?_
  refine e_iinc (pc' := 100) (L' := [some (rv 72), some (rv 1), some (iv 11)]) dX8_takePeople_97 rfl rfl (by decide) rfl ?_
  refine e_goto (pc' := 84) dX8_takePeople_100 (by decide) ?_
  refine e_iload_n (pc' := 85) dX8_takePeople_84 rfl rfl ?_
  refine e_bipush (pc' := 87) (z := 15) dX8_takePeople_85 rfl (by decide) ?_
  refine e_icmpI (pc' := 90) (t := 103) dX8_takePeople_87 (by decide) rfl ⟨by omega, by omega⟩ ⟨by omega, by omega⟩ (fun c2_12 => absurd (show 15 ≤ (11 : Int) from c2_12) (by decide)) (fun _ => ?_)
  refine e_aload_n (pc' := 91) dX8_takePeople_90 rfl rfl ?_
  refine e_getR (pc' := 94) dX8_takePeople_91 rfl f_8_24 h_72 rfl ?_
  refine e_iload_n (pc' := 95) dX8_takePeople_94 rfl rfl ?_
  refine e_iconst (pc' := 96) dX8_takePeople_95 rfl ?_
  refine e_iast (pc' := 97) dX8_takePeople_96 rfl h_77 (by decide) (by omega) (by omega) ?_
  refine e_iinc (pc' := 100) (L' := [some (rv 72), some (rv 1), some (iv 12)]) dX8_takePeople_97 rfl rfl (by decide) rfl ?_
  refine e_goto (pc' := 84) dX8_takePeople_100 (by decide) ?_
  refine e_iload_n (pc' := 85) dX8_takePeople_84 rfl rfl ?_
  refine e_bipush (pc' := 87) (z := 15) dX8_takePeople_85 rfl (by decide) ?_
  refine e_icmpI (pc' := 90) (t := 103) dX8_takePeople_87 (by decide) rfl ⟨by omega, by omega⟩ ⟨by omega, by omega⟩ (fun c2_13 => absurd (show 15 ≤ (12 : Int) from c2_13) (by decide)) (fun _ => ?_)
  refine e_aload_n (pc' := 91) dX8_takePeople_90 rfl rfl ?_
  refine e_getR (pc' := 94) dX8_takePeople_91 rfl f_8_24 h_72 rfl ?_
  refine e_iload_n (pc' := 95) dX8_takePeople_94 rfl rfl ?_
  refine e_iconst (pc' := 96) dX8_takePeople_95 rfl ?_
  refine e_iast (pc' := 97) dX8_takePeople_96 rfl h_77 (by decide) (by omega) (by omega) ?_
  refine e_iinc (pc' := 100) (L' := [some (rv 72), some (rv 1), some (iv 13)]) dX8_takePeople_97 rfl rfl (by decide) rfl ?_
  refine e_goto (pc' := 84) dX8_takePeople_100 (by decide) ?_
  refine e_iload_n (pc' := 85) dX8_takePeople_84 rfl rfl ?_
  refine e_bipush (pc' := 87) (z := 15) dX8_takePeople_85 rfl (by decide) ?_
  refine e_icmpI (pc' := 90) (t := 103) dX8_takePeople_87 (by decide) rfl ⟨by omega, by omega⟩ ⟨by omega, by omega⟩ (fun c2_14 => absurd (show 15 ≤ (13 : Int) from c2_14) (by decide)) (fun _ => ?_)
  refine e_aload_n (pc' := 91) dX8_takePeople_90 rfl rfl ?_
  refine e_getR (pc' := 94) dX8_takePeople_91 rfl f_8_24 h_72 rfl ?_
  refine e_iload_n (pc' := 95) dX8_takePeople_94 rfl rfl ?_
  refine e_iconst (pc' := 96) dX8_takePeople_95 rfl ?_
  refine e_iast (pc' := 97) dX8_takePeople_96 rfl h_77 (by decide) (by omega) (by omega) ?_
  refine e_iinc (pc' := 100) (L' := [some (rv 72), some (rv 1), some (iv 14)]) dX8_takePeople_97 rfl rfl (by decide) rfl ?_
  refine e_goto (pc' := 84) dX8_takePeople_100 (by decide) ?_
  refine e_iload_n (pc' := 85) dX8_takePeople_84 rfl rfl ?_
  refine e_bipush (pc' := 87) (z := 15) dX8_takePeople_85 rfl (by decide) ?_
  refine e_icmpI (pc' := 90) (t := 103) dX8_takePeople_87 (by decide) rfl ⟨by omega, by omega⟩ ⟨by omega, by omega⟩ (fun c2_15 => absurd (show 15 ≤ (14 : Int) from c2_15) (by decide)) (fun _ => ?_)
  refine e_aload_n (pc' := 91) dX8_takePeople_90 rfl rfl ?_
  refine e_getR (pc' := 94) dX8_takePeople_91 rfl f_8_24 h_72 rfl ?_
  refine e_iload_n (pc' := 95) dX8_takePeople_94 rfl rfl ?_
  refine e_iconst (pc' := 96) dX8_takePeople_95 rfl ?_
  refine e_iast (pc' := 97) dX8_takePeople_96 rfl h_77 (by decide) (by omega) (by omega) ?_
  refine e_iinc (pc' := 100) (L' := [some (rv 72), some (rv 1), some (iv 15)]) dX8_takePeople_97 rfl rfl (by decide) rfl ?_
  refine e_goto (pc' := 84) dX8_takePeople_100 (by decide) ?_
  refine e_iload_n (pc' := 85) dX8_takePeople_84 rfl rfl ?_
  refine e_bipush (pc' := 87) (z := 15) dX8_takePeople_85 rfl (by decide) ?_
  refine e_icmpI (pc' := 90) (t := 103) dX8_takePeople_87 (by decide) rfl ⟨by omega, by omega⟩ ⟨by omega, by omega⟩ (fun _ => ?_) (fun c2_16 => absurd (show 15 ≤ (15 : Int) by decide) c2_16)
  exact e_vret dX8_takePeople_103 rfl ⟨rfl, Nat.le_refl _⟩ ⟨rfl, ⟨⟨rfl, rfl, rfl⟩, ⟨rfl, rfl, rfl⟩, fun j a b => cpy0 a b, fun j a b => cpy0 a b, fun j a b => ⟨cpy0 a b, cpy0 a b⟩, zero15 rfl rfl rfl rfl rfl rfl rfl rfl rfl rfl rfl rfl rfl rfl rfl⟩, (by repeat (first | exact Fr.rf | (refine fr_I ?_ (by decide)) | (refine fr_J ?_ (by decide)) | (refine fr_C ?_ (by decide))))⟩

set_option maxHeartbeats 4000000 in
set_option maxRecDepth 100000 in
theorem s_rtake_79_8 {X : AX} {d : Nat} {σ : SG} : Ev X 0 0 (d + 1) mX7_take 0 [some (rv 79), some (rv 8)] [] σ (QV (fun σ' => RlEq σ' 79 σ 8 ∧ Fr [79, 80, 81] σ σ')) := by
  refine e_aload_n (pc' := 1) dX7_take_0 rfl rfl ?_
  refine e_getR (pc' := 4) dX7_take_1 rfl f_7_9 h_8 rfl ?_
  refine e_iconst (pc' := 5) dX7_take_4 rfl ?_
  refine e_aload_n (pc' := 6) dX7_take_5 rfl rfl ?_
  refine e_getR (pc' := 9) dX7_take_6 rfl f_7_9 h_79 rfl ?_
  refine e_iconst (pc' := 10) dX7_take_9 rfl ?_
  refine e_bipush (pc' := 12) (z := 40) dX7_take_10 rfl (by decide) ?_
  refine e_copy (pc' := 15) dX7_take_12 rfl p_7_28 h_9 h_80 ⟨by omega, by omega, by omega, by omega, by omega, by decide, by decide⟩ (Nat.le_of_ble_eq_true rfl) ?_
  refine e_aload_n (pc' := 16) dX7_take_15 rfl rfl ?_
  refine e_getR (pc' := 19) dX7_take_16 rfl f_7_15 h_8 rfl ?_
  refine e_iconst (pc' := 20) dX7_take_19 rfl ?_
  refine e_aload_n (pc' := 21) dX7_take_20 rfl rfl ?_
  refine e_getR (pc' := 24) dX7_take_21 rfl f_7_15 h_79 rfl ?_
  refine e_iconst (pc' := 25) dX7_take_24 rfl ?_
  refine e_bipush (pc' := 27) (z := 40) dX7_take_25 rfl (by decide) ?_
  refine e_copy (pc' := 30) dX7_take_27 rfl p_7_28 h_10 h_81 ⟨by omega, by omega, by omega, by omega, by omega, by decide, by decide⟩ (Nat.le_of_ble_eq_true rfl) ?_
  refine e_aload_n (pc' := 31) dX7_take_30 rfl rfl ?_
  refine e_aload_n (pc' := 32) dX7_take_31 rfl rfl ?_
  refine e_getI (pc' := 35) (v := (σ.1 8 2)) dX7_take_32 rfl f_7_18 h_8 rfl rfl ?_
  refine e_putI (pc' := 38) dX7_take_35 rfl f_7_18 h_79 rfl rfl rfl ?_
  refine e_aload_n (pc' := 39) dX7_take_38 rfl rfl ?_
  refine e_aload_n (pc' := 40) dX7_take_39 rfl rfl ?_
  refine e_getI (pc' := 43) (v := (σ.1 8 3)) dX7_take_40 rfl f_7_22 h_8 rfl rfl ?_
  refine e_putI (pc' := 46) dX7_take_43 rfl f_7_22 h_79 rfl rfl rfl ?_
  refine e_aload_n (pc' := 47) dX7_take_46 rfl rfl ?_
  refine e_aload_n (pc' := 48) dX7_take_47 rfl rfl ?_
  refine e_getI (pc' := 51) (v := (σ.1 8 4)) dX7_take_48 rfl f_7_25 h_8 rfl rfl ?_
  refine e_putI (pc' := 54) dX7_take_51 rfl f_7_25 h_79 rfl rfl rfl ?_
  exact e_vret dX7_take_54 rfl ⟨rfl, Nat.le_refl _⟩ ⟨rfl, ⟨⟨rfl, rfl, rfl⟩, fun j a b => ⟨cpy0 a b, cpy0 a b⟩⟩, (by repeat (first | exact Fr.rf | (refine fr_I ?_ (by decide)) | (refine fr_J ?_ (by decide)) | (refine fr_C ?_ (by decide))))⟩

set_option maxHeartbeats 4000000 in
set_option maxRecDepth 100000 in
theorem s_rtake_82_11 {X : AX} {d : Nat} {σ : SG} : Ev X 0 0 (d + 1) mX7_take 0 [some (rv 82), some (rv 11)] [] σ (QV (fun σ' => RlEq σ' 82 σ 11 ∧ Fr [82, 83, 84] σ σ')) := by
  refine e_aload_n (pc' := 1) dX7_take_0 rfl rfl ?_
  refine e_getR (pc' := 4) dX7_take_1 rfl f_7_9 h_11 rfl ?_
  refine e_iconst (pc' := 5) dX7_take_4 rfl ?_
  refine e_aload_n (pc' := 6) dX7_take_5 rfl rfl ?_
  refine e_getR (pc' := 9) dX7_take_6 rfl f_7_9 h_82 rfl ?_
  refine e_iconst (pc' := 10) dX7_take_9 rfl ?_
  refine e_bipush (pc' := 12) (z := 40) dX7_take_10 rfl (by decide) ?_
  refine e_copy (pc' := 15) dX7_take_12 rfl p_7_28 h_12 h_83 ⟨by omega, by omega, by omega, by omega, by omega, by decide, by decide⟩ (Nat.le_of_ble_eq_true rfl) ?_
  refine e_aload_n (pc' := 16) dX7_take_15 rfl rfl ?_
  refine e_getR (pc' := 19) dX7_take_16 rfl f_7_15 h_11 rfl ?_
  refine e_iconst (pc' := 20) dX7_take_19 rfl ?_
  refine e_aload_n (pc' := 21) dX7_take_20 rfl rfl ?_
  refine e_getR (pc' := 24) dX7_take_21 rfl f_7_15 h_82 rfl ?_
  refine e_iconst (pc' := 25) dX7_take_24 rfl ?_
  refine e_bipush (pc' := 27) (z := 40) dX7_take_25 rfl (by decide) ?_
  refine e_copy (pc' := 30) dX7_take_27 rfl p_7_28 h_13 h_84 ⟨by omega, by omega, by omega, by omega, by omega, by decide, by decide⟩ (Nat.le_of_ble_eq_true rfl) ?_
  refine e_aload_n (pc' := 31) dX7_take_30 rfl rfl ?_
  refine e_aload_n (pc' := 32) dX7_take_31 rfl rfl ?_
  refine e_getI (pc' := 35) (v := (σ.1 11 2)) dX7_take_32 rfl f_7_18 h_11 rfl rfl ?_
  refine e_putI (pc' := 38) dX7_take_35 rfl f_7_18 h_82 rfl rfl rfl ?_
  refine e_aload_n (pc' := 39) dX7_take_38 rfl rfl ?_
  refine e_aload_n (pc' := 40) dX7_take_39 rfl rfl ?_
  refine e_getI (pc' := 43) (v := (σ.1 11 3)) dX7_take_40 rfl f_7_22 h_11 rfl rfl ?_
  refine e_putI (pc' := 46) dX7_take_43 rfl f_7_22 h_82 rfl rfl rfl ?_
  refine e_aload_n (pc' := 47) dX7_take_46 rfl rfl ?_
  refine e_aload_n (pc' := 48) dX7_take_47 rfl rfl ?_
  refine e_getI (pc' := 51) (v := (σ.1 11 4)) dX7_take_48 rfl f_7_25 h_11 rfl rfl ?_
  refine e_putI (pc' := 54) dX7_take_51 rfl f_7_25 h_82 rfl rfl rfl ?_
  exact e_vret dX7_take_54 rfl ⟨rfl, Nat.le_refl _⟩ ⟨rfl, ⟨⟨rfl, rfl, rfl⟩, fun j a b => ⟨cpy0 a b, cpy0 a b⟩⟩, (by repeat (first | exact Fr.rf | (refine fr_I ?_ (by decide)) | (refine fr_J ?_ (by decide)) | (refine fr_C ?_ (by decide))))⟩

set_option maxHeartbeats 4000000 in
set_option maxRecDepth 100000 in
theorem s_rtake_85_14 {X : AX} {d : Nat} {σ : SG} : Ev X 0 0 (d + 1) mX7_take 0 [some (rv 85), some (rv 14)] [] σ (QV (fun σ' => RlEq σ' 85 σ 14 ∧ Fr [85, 86, 87] σ σ')) := by
  refine e_aload_n (pc' := 1) dX7_take_0 rfl rfl ?_
  refine e_getR (pc' := 4) dX7_take_1 rfl f_7_9 h_14 rfl ?_
  refine e_iconst (pc' := 5) dX7_take_4 rfl ?_
  refine e_aload_n (pc' := 6) dX7_take_5 rfl rfl ?_
  refine e_getR (pc' := 9) dX7_take_6 rfl f_7_9 h_85 rfl ?_
  refine e_iconst (pc' := 10) dX7_take_9 rfl ?_
  refine e_bipush (pc' := 12) (z := 40) dX7_take_10 rfl (by decide) ?_
  refine e_copy (pc' := 15) dX7_take_12 rfl p_7_28 h_15 h_86 ⟨by omega, by omega, by omega, by omega, by omega, by decide, by decide⟩ (Nat.le_of_ble_eq_true rfl) ?_
  refine e_aload_n (pc' := 16) dX7_take_15 rfl rfl ?_
  refine e_getR (pc' := 19) dX7_take_16 rfl f_7_15 h_14 rfl ?_
  refine e_iconst (pc' := 20) dX7_take_19 rfl ?_
  refine e_aload_n (pc' := 21) dX7_take_20 rfl rfl ?_
  refine e_getR (pc' := 24) dX7_take_21 rfl f_7_15 h_85 rfl ?_
  refine e_iconst (pc' := 25) dX7_take_24 rfl ?_
  refine e_bipush (pc' := 27) (z := 40) dX7_take_25 rfl (by decide) ?_
  refine e_copy (pc' := 30) dX7_take_27 rfl p_7_28 h_16 h_87 ⟨by omega, by omega, by omega, by omega, by omega, by decide, by decide⟩ (Nat.le_of_ble_eq_true rfl) ?_
  refine e_aload_n (pc' := 31) dX7_take_30 rfl rfl ?_
  refine e_aload_n (pc' := 32) dX7_take_31 rfl rfl ?_
  refine e_getI (pc' := 35) (v := (σ.1 14 2)) dX7_take_32 rfl f_7_18 h_14 rfl rfl ?_
  refine e_putI (pc' := 38) dX7_take_35 rfl f_7_18 h_85 rfl rfl rfl ?_
  refine e_aload_n (pc' := 39) dX7_take_38 rfl rfl ?_
  refine e_aload_n (pc' := 40) dX7_take_39 rfl rfl ?_
  refine e_getI (pc' := 43) (v := (σ.1 14 3)) dX7_take_40 rfl f_7_22 h_14 rfl rfl ?_
  refine e_putI (pc' := 46) dX7_take_43 rfl f_7_22 h_85 rfl rfl rfl ?_
  refine e_aload_n (pc' := 47) dX7_take_46 rfl rfl ?_
  refine e_aload_n (pc' := 48) dX7_take_47 rfl rfl ?_
  refine e_getI (pc' := 51) (v := (σ.1 14 4)) dX7_take_48 rfl f_7_25 h_14 rfl rfl ?_
  refine e_putI (pc' := 54) dX7_take_51 rfl f_7_25 h_85 rfl rfl rfl ?_
  exact e_vret dX7_take_54 rfl ⟨rfl, Nat.le_refl _⟩ ⟨rfl, ⟨⟨rfl, rfl, rfl⟩, fun j a b => ⟨cpy0 a b, cpy0 a b⟩⟩, (by repeat (first | exact Fr.rf | (refine fr_I ?_ (by decide)) | (refine fr_J ?_ (by decide)) | (refine fr_C ?_ (by decide))))⟩

set_option maxHeartbeats 4000000 in
set_option maxRecDepth 100000 in
theorem s_take_72_1 {X : AX} {d : Nat} {σ : SG} : Ev X 0 0 (d + 2) mX8_take 0 [some (rv 72), some (rv 1), none] [] σ (QV (fun σ' => SnEq σ' 72 σ 1 ∧ Fr [72, 73, 74, 75, 76, 77, 79, 80, 81, 82, 83, 84, 85, 86, 87] σ σ')) := by
  refine e_aload_n (pc' := 1) dX8_take_0 rfl rfl ?_
  refine e_aload_n (pc' := 2) dX8_take_1 rfl rfl ?_
  refine e_cv1v (pc' := 5) dX8_take_2 rfl k_8_53 h_72 rfl (Nat.le_of_ble_eq_true rfl) rfl rfl ⟨rfl, rfl⟩ ⟨Nat.zero_le _, Nat.zero_le _⟩ s_takePeople_72_1 ?_
  rintro τ1 ⟨hP1, hG1⟩
  refine e_aload_n (pc' := 6) dX8_take_5 rfl rfl ?_
  refine e_getR (pc' := 9) dX8_take_6 rfl f_8_24 h_1 rfl ?_
  refine e_iconst (pc' := 10) dX8_take_9 rfl ?_
  refine e_aload_n (pc' := 11) dX8_take_10 rfl rfl ?_
  refine e_getR (pc' := 14) dX8_take_11 rfl f_8_24 h_72 rfl ?_
  refine e_iconst (pc' := 15) dX8_take_14 rfl ?_
  refine e_bipush (pc' := 17) (z := 15) dX8_take_15 rfl (by decide) ?_
  refine e_copy (pc' := 20) dX8_take_17 rfl p_8_57 h_6 h_77 ⟨by omega, by omega, by omega, by omega, by omega, by decide, by decide⟩ (Nat.le_of_ble_eq_true rfl) ?_
  refine e_iconst (pc' := 21) dX8_take_20 rfl ?_
  refine e_istore_n (pc' := 22) (L' := [some (rv 72), some (rv 1), some (iv 0)]) dX8_take_21 rfl (by decide) rfl ?_
  refine e_iload_n (pc' := 23) dX8_take_22 rfl rfl ?_
  refine e_iconst (pc' := 24) dX8_take_23 rfl ?_
  refine e_icmpI (pc' := 27) (t := 48) dX8_take_24 (by decide) rfl ⟨by omega, by omega⟩ ⟨by omega, by omega⟩ (fun c2_1 => absurd (show 3 ≤ (0 : Int) from c2_1) (by decide)) (fun _ => ?_)
  refine e_aload_n (pc' := 28) dX8_take_27 rfl rfl ?_
  refine e_getR (pc' := 31) dX8_take_28 rfl f_8_29 h_72 rfl ?_
  refine e_iload_n (pc' := 32) dX8_take_31 rfl rfl ?_
  refine e_aald (pc' := 33) (k := 79) dX8_take_32 rfl h_78 (by decide) (by decide) (by omega) (by omega) rfl ?_
  refine e_aload_n (pc' := 34) dX8_take_33 rfl rfl ?_
  refine e_getR (pc' := 37) dX8_take_34 rfl f_8_29 h_1 rfl ?_
  refine e_iload_n (pc' := 38) dX8_take_37 rfl rfl ?_
  refine e_aald (pc' := 39) (k := 8) dX8_take_38 rfl h_7 (by decide) (by decide) (by omega) (by omega) rfl ?_
  refine e_cv1v (pc' := 42) dX8_take_39 rfl k_8_63 h_79 rfl (Nat.le_of_ble_eq_true rfl) rfl rfl ⟨rfl, rfl⟩ ⟨Nat.zero_le _, Nat.zero_le _⟩ s_rtake_79_8 ?_
  rintro τ2 ⟨hP2, hG2⟩
  refine e_iinc (pc' := 45) (L' := [some (rv 72), some (rv 1), some (iv 1)]) dX8_take_42 rfl rfl (by decide) rfl ?_
  refine e_goto (pc' := 22) dX8_take_45 (by decide) ?_
  refine e_iload_n (pc' := 23) dX8_take_22 rfl rfl ?_
  refine e_iconst (pc' := 24) dX8_take_23 rfl ?_
  refine e_icmpI (pc' := 27) (t := 48) dX8_take_24 (by decide) rfl ⟨by omega, by omega⟩ ⟨by omega, by omega⟩ (fun c2_2 => absurd (show 3 ≤ (1 : Int) from c2_2) (by decide)) (fun _ => ?_)
  refine e_aload_n (pc' := 28) dX8_take_27 rfl rfl ?_
  refine e_getR (pc' := 31) dX8_take_28 rfl f_8_29 h_72 rfl ?_
  refine e_iload_n (pc' := 32) dX8_take_31 rfl rfl ?_
  refine e_aald (pc' := 33) (k := 82) dX8_take_32 rfl h_78 (by decide) (by decide) (by omega) (by omega) rfl ?_
  refine e_aload_n (pc' := 34) dX8_take_33 rfl rfl ?_
  refine e_getR (pc' := 37) dX8_take_34 rfl f_8_29 h_1 rfl ?_
  refine e_iload_n (pc' := 38) dX8_take_37 rfl rfl ?_
  refine e_aald (pc' := 39) (k := 11) dX8_take_38 rfl h_7 (by decide) (by decide) (by omega) (by omega) rfl ?_
  refine e_cv1v (pc' := 42) dX8_take_39 rfl k_8_63 h_82 rfl (Nat.le_of_ble_eq_true rfl) rfl rfl ⟨rfl, rfl⟩ ⟨Nat.zero_le _, Nat.zero_le _⟩ s_rtake_82_11 ?_
  rintro τ3 ⟨hP3, hG3⟩
  refine e_iinc (pc' := 45) (L' := [some (rv 72), some (rv 1), some (iv 2)]) dX8_take_42 rfl rfl (by decide) rfl ?_
  refine e_goto (pc' := 22) dX8_take_45 (by decide) ?_
  refine e_iload_n (pc' := 23) dX8_take_22 rfl rfl ?_
  refine e_iconst (pc' := 24) dX8_take_23 rfl ?_
  refine e_icmpI (pc' := 27) (t := 48) dX8_take_24 (by decide) rfl ⟨by omega, by omega⟩ ⟨by omega, by omega⟩ (fun c2_3 => absurd (show 3 ≤ (2 : Int) from c2_3) (by decide)) (fun _ => ?_)
  refine e_aload_n (pc' := 28) dX8_take_27 rfl rfl ?_
  refine e_getR (pc' := 31) dX8_take_28 rfl f_8_29 h_72 rfl ?_
  refine e_iload_n (pc' := 32) dX8_take_31 rfl rfl ?_
  refine e_aald (pc' := 33) (k := 85) dX8_take_32 rfl h_78 (by decide) (by decide) (by omega) (by omega) rfl ?_
  refine e_aload_n (pc' := 34) dX8_take_33 rfl rfl ?_
  refine e_getR (pc' := 37) dX8_take_34 rfl f_8_29 h_1 rfl ?_
  refine e_iload_n (pc' := 38) dX8_take_37 rfl rfl ?_
  refine e_aald (pc' := 39) (k := 14) dX8_take_38 rfl h_7 (by decide) (by decide) (by omega) (by omega) rfl ?_
  refine e_cv1v (pc' := 42) dX8_take_39 rfl k_8_63 h_85 rfl (Nat.le_of_ble_eq_true rfl) rfl rfl ⟨rfl, rfl⟩ ⟨Nat.zero_le _, Nat.zero_le _⟩ s_rtake_85_14 ?_
  rintro τ4 ⟨hP4, hG4⟩
  refine e_iinc (pc' := 45) (L' := [some (rv 72), some (rv 1), some (iv 3)]) dX8_take_42 rfl rfl (by decide) rfl ?_
  refine e_goto (pc' := 22) dX8_take_45 (by decide) ?_
  refine e_iload_n (pc' := 23) dX8_take_22 rfl rfl ?_
  refine e_iconst (pc' := 24) dX8_take_23 rfl ?_
  refine e_icmpI (pc' := 27) (t := 48) dX8_take_24 (by decide) rfl ⟨by omega, by omega⟩ ⟨by omega, by omega⟩ (fun _ => ?_) (fun c2_4 => absurd (show 3 ≤ (3 : Int) by decide) c2_4)
  refine e_aload_n (pc' := 49) dX8_take_48 rfl rfl ?_
  refine e_aload_n (pc' := 50) dX8_take_49 rfl rfl ?_
  refine e_getI (pc' := 53) (v := (σ.1 1 9)) dX8_take_50 rfl f_8_43 h_1 rfl ((congrFun (hG4 1 (by decide)).1 9).trans ((congrFun (hG3 1 (by decide)).1 9).trans ((congrFun (hG2 1 (by decide)).1 9).trans ((congrFun (hG1 1 (by decide)).1 9).trans rfl)))) ?_
  refine e_putI (pc' := 56) dX8_take_53 rfl f_8_43 h_72 rfl rfl rfl ?_
  refine e_aload_n (pc' := 57) dX8_take_56 rfl rfl ?_
  refine e_aload_n (pc' := 58) dX8_take_57 rfl rfl ?_
  refine e_getI (pc' := 61) (v := (σ.1 1 10)) dX8_take_58 rfl f_8_46 h_1 rfl ((congrFun (hG4 1 (by decide)).1 10).trans ((congrFun (hG3 1 (by decide)).1 10).trans ((congrFun (hG2 1 (by decide)).1 10).trans ((congrFun (hG1 1 (by decide)).1 10).trans rfl)))) ?_
  refine e_putI (pc' := 64) dX8_take_61 rfl f_8_46 h_72 rfl rfl rfl ?_
  refine e_aload_n (pc' := 65) dX8_take_64 rfl rfl ?_
  refine e_aload_n (pc' := 66) dX8_take_65 rfl rfl ?_
  refine e_getI (pc' := 69) (v := (σ.1 1 11)) dX8_take_66 rfl f_8_49 h_1 rfl ((congrFun (hG4 1 (by decide)).1 11).trans ((congrFun (hG3 1 (by decide)).1 11).trans ((congrFun (hG2 1 (by decide)).1 11).trans ((congrFun (hG1 1 (by decide)).1 11).trans rfl)))) ?_
  refine e_putI (pc' := 72) dX8_take_69 rfl f_8_49 h_72 rfl rfl rfl ?_
  exact e_vret dX8_take_72 rfl ⟨rfl, Nat.le_refl _⟩ (by
        have q72 : τ4.1 72 = ((upC τ1 77 (cpyA (τ1.1 6) (τ1.1 77) 0 0 15))).1 72 := (hG4 72 (by decide)).1.trans ((hG3 72 (by decide)).1.trans (hG2 72 (by decide)).1)
        have q73 : τ4.1 73 = ((upC τ1 77 (cpyA (τ1.1 6) (τ1.1 77) 0 0 15))).1 73 := (hG4 73 (by decide)).1.trans ((hG3 73 (by decide)).1.trans (hG2 73 (by decide)).1)
        have q74 : τ4.1 74 = ((upC τ1 77 (cpyA (τ1.1 6) (τ1.1 77) 0 0 15))).1 74 := (hG4 74 (by decide)).1.trans ((hG3 74 (by decide)).1.trans (hG2 74 (by decide)).1)
        have q75 : τ4.1 75 = ((upC τ1 77 (cpyA (τ1.1 6) (τ1.1 77) 0 0 15))).1 75 := (hG4 75 (by decide)).1.trans ((hG3 75 (by decide)).1.trans (hG2 75 (by decide)).1)
        have q76 : τ4.1 76 = ((upC τ1 77 (cpyA (τ1.1 6) (τ1.1 77) 0 0 15))).1 76 := (hG4 76 (by decide)).1.trans ((hG3 76 (by decide)).1.trans (hG2 76 (by decide)).1)
        have q77 : τ4.1 77 = ((upC τ1 77 (cpyA (τ1.1 6) (τ1.1 77) 0 0 15))).1 77 := (hG4 77 (by decide)).1.trans ((hG3 77 (by decide)).1.trans (hG2 77 (by decide)).1)
        have c5 : τ1.1 6 = σ.1 6 := (hG1 6 (by decide)).1
        have a00 : τ4.1 79 = τ2.1 79 := (hG4 79 (by decide)).1.trans (hG3 79 (by decide)).1
        have b00 : ((upC τ1 77 (cpyA (τ1.1 6) (τ1.1 77) 0 0 15))).1 8 = σ.1 8 := (show ((upC τ1 77 (cpyA (τ1.1 6) (τ1.1 77) 0 0 15))).1 8 = σ.1 8 from (hG1 8 (by decide)).1)
        have a01 : τ4.1 80 = τ2.1 80 := (hG4 80 (by decide)).1.trans (hG3 80 (by decide)).1
        have b01 : ((upC τ1 77 (cpyA (τ1.1 6) (τ1.1 77) 0 0 15))).1 9 = σ.1 9 := (show ((upC τ1 77 (cpyA (τ1.1 6) (τ1.1 77) 0 0 15))).1 9 = σ.1 9 from (hG1 9 (by decide)).1)
        have a02 : τ4.1 81 = τ2.1 81 := (hG4 81 (by decide)).1.trans (hG3 81 (by decide)).1
        have b02 : ((upC τ1 77 (cpyA (τ1.1 6) (τ1.1 77) 0 0 15))).1 10 = σ.1 10 := (show ((upC τ1 77 (cpyA (τ1.1 6) (τ1.1 77) 0 0 15))).1 10 = σ.1 10 from (hG1 10 (by decide)).1)
        have a10 : τ4.1 82 = τ3.1 82 := (hG4 82 (by decide)).1
        have b10 : (τ2).1 11 = σ.1 11 := (hG2 11 (by decide)).1.trans (show ((upC τ1 77 (cpyA (τ1.1 6) (τ1.1 77) 0 0 15))).1 11 = σ.1 11 from (hG1 11 (by decide)).1)
        have a11 : τ4.1 83 = τ3.1 83 := (hG4 83 (by decide)).1
        have b11 : (τ2).1 12 = σ.1 12 := (hG2 12 (by decide)).1.trans (show ((upC τ1 77 (cpyA (τ1.1 6) (τ1.1 77) 0 0 15))).1 12 = σ.1 12 from (hG1 12 (by decide)).1)
        have a12 : τ4.1 84 = τ3.1 84 := (hG4 84 (by decide)).1
        have b12 : (τ2).1 13 = σ.1 13 := (hG2 13 (by decide)).1.trans (show ((upC τ1 77 (cpyA (τ1.1 6) (τ1.1 77) 0 0 15))).1 13 = σ.1 13 from (hG1 13 (by decide)).1)
        have a20 : τ4.1 85 = τ4.1 85 := rfl
        have b20 : (τ3).1 14 = σ.1 14 := (hG3 14 (by decide)).1.trans ((hG2 14 (by decide)).1.trans (show ((upC τ1 77 (cpyA (τ1.1 6) (τ1.1 77) 0 0 15))).1 14 = σ.1 14 from (hG1 14 (by decide)).1))
        have a21 : τ4.1 86 = τ4.1 86 := rfl
        have b21 : (τ3).1 15 = σ.1 15 := (hG3 15 (by decide)).1.trans ((hG2 15 (by decide)).1.trans (show ((upC τ1 77 (cpyA (τ1.1 6) (τ1.1 77) 0 0 15))).1 15 = σ.1 15 from (hG1 15 (by decide)).1))
        have a22 : τ4.1 87 = τ4.1 87 := rfl
        have b22 : (τ3).1 16 = σ.1 16 := (hG3 16 (by decide)).1.trans ((hG2 16 (by decide)).1.trans (show ((upC τ1 77 (cpyA (τ1.1 6) (τ1.1 77) 0 0 15))).1 16 = σ.1 16 from (hG1 16 (by decide)).1))
        have hF4 : Fr [72, 73, 74, 75, 76, 77, 79, 80, 81, 82, 83, 84, 85, 86, 87] σ τ4 := (fr_C (hG1.mono (by decide)) (by decide)).tr ((hG2.mono (by decide)).tr ((hG3.mono (by decide)).tr (hG4.mono (by decide))))
        refine ⟨rfl, ⟨⟨(congrFun q72 6).trans hP1.1.1, (congrFun q72 7).trans hP1.1.2.1, (congrFun q72 8).trans hP1.1.2.2⟩, ⟨rfl, rfl, rfl⟩, fun j a b => (congrFun q73 j).trans (hP1.2.2.1 j a b), fun j a b => (congrFun q74 j).trans (hP1.2.2.2.1 j a b), fun j a b => ⟨(congrFun q75 j).trans (hP1.2.2.2.2.1 j a b).1, (congrFun q76 j).trans (hP1.2.2.2.2.1 j a b).2⟩, fun j a b => (congrFun q77 j).trans ((cpy0 a b).trans (congrFun c5 j)), ?_, ?_, ?_⟩, fr_I (fr_I (fr_I hF4 (by decide)) (by decide)) (by decide)⟩
        · exact hP2.cg a00 a01 a02 b00 b01 b02
        · exact hP3.cg a10 a11 a12 b10 b11 b12
        · exact hP4.cg a20 a21 a22 b20 b21 b22)

set_option maxHeartbeats 4000000 in
set_option maxRecDepth 100000 in
theorem s_takePeople_1_56 {X : AX} {d : Nat} {σ : SG} : Ev X 0 0 (d + 1) mX8_takePeople 0 [some (rv 1), some (rv 56), none] [] σ (QV (fun σ' => PeI σ' 1 σ 56 ∧ Fr [1, 2, 3, 4, 5, 6] σ σ')) := by
  refine e_aload_n (pc' := 1) dX8_takePeople_0 rfl rfl ?_
  refine e_getR (pc' := 4) dX8_takePeople_1 rfl f_8_9 h_56 rfl ?_
  refine e_iconst (pc' := 5) dX8_takePeople_4 rfl ?_
  refine e_aload_n (pc' := 6) dX8_takePeople_5 rfl rfl ?_
  refine e_getR (pc' := 9) dX8_takePeople_6 rfl f_8_9 h_1 rfl ?_
  refine e_iconst (pc' := 10) dX8_takePeople_9 rfl ?_
  refine e_iconst (pc' := 11) dX8_takePeople_10 rfl ?_
  refine e_copy (pc' := 14) dX8_takePeople_11 rfl p_8_57 h_57 h_2 ⟨by omega, by omega, by omega, by omega, by omega, by decide, by decide⟩ (Nat.le_of_ble_eq_true rfl) ?_
  refine e_aload_n (pc' := 15) dX8_takePeople_14 rfl rfl ?_
  refine e_getR (pc' := 18) dX8_takePeople_15 rfl f_8_15 h_56 rfl ?_
  refine e_iconst (pc' := 19) dX8_takePeople_18 rfl ?_
  refine e_aload_n (pc' := 20) dX8_takePeople_19 rfl rfl ?_
  refine e_getR (pc' := 23) dX8_takePeople_20 rfl f_8_15 h_1 rfl ?_
  refine e_iconst (pc' := 24) dX8_takePeople_23 rfl ?_
  refine e_iconst (pc' := 25) dX8_takePeople_24 rfl ?_
  refine e_copy (pc' := 28) dX8_takePeople_25 rfl p_8_57 h_58 h_3 ⟨by omega, by omega, by omega, by omega, by omega, by decide, by decide⟩ (Nat.le_of_ble_eq_true rfl) ?_
  refine e_aload_n (pc' := 29) dX8_takePeople_28 rfl rfl ?_
  refine e_getR (pc' := 32) dX8_takePeople_29 rfl f_8_18 h_56 rfl ?_
  refine e_iconst (pc' := 33) dX8_takePeople_32 rfl ?_
  refine e_aload_n (pc' := 34) dX8_takePeople_33 rfl rfl ?_
  refine e_getR (pc' := 37) dX8_takePeople_34 rfl f_8_18 h_1 rfl ?_
  refine e_iconst (pc' := 38) dX8_takePeople_37 rfl ?_
  refine e_bipush (pc' := 40) (z := 15) dX8_takePeople_38 rfl (by decide) ?_
  refine e_copy (pc' := 43) dX8_takePeople_40 rfl p_8_57 h_59 h_4 ⟨by omega, by omega, by omega, by omega, by omega, by decide, by decide⟩ (Nat.le_of_ble_eq_true rfl) ?_
  refine e_aload_n (pc' := 44) dX8_takePeople_43 rfl rfl ?_
  refine e_getR (pc' := 47) dX8_takePeople_44 rfl f_8_21 h_56 rfl ?_
  refine e_iconst (pc' := 48) dX8_takePeople_47 rfl ?_
  refine e_aload_n (pc' := 49) dX8_takePeople_48 rfl rfl ?_
  refine e_getR (pc' := 52) dX8_takePeople_49 rfl f_8_21 h_1 rfl ?_
  refine e_iconst (pc' := 53) dX8_takePeople_52 rfl ?_
  refine e_bipush (pc' := 55) (z := 15) dX8_takePeople_53 rfl (by decide) ?_
  refine e_copy (pc' := 58) dX8_takePeople_55 rfl p_8_57 h_60 h_5 ⟨by omega, by omega, by omega, by omega, by omega, by decide, by decide⟩ (Nat.le_of_ble_eq_true rfl) ?_
  refine e_aload_n (pc' := 59) dX8_takePeople_58 rfl rfl ?_
  refine e_aload_n (pc' := 60) dX8_takePeople_59 rfl rfl ?_
  refine e_getI (pc' := 63) (v := (σ.1 56 6)) dX8_takePeople_60 rfl f_8_33 h_56 rfl rfl ?_
  refine e_putI (pc' := 66) dX8_takePeople_63 rfl f_8_33 h_1 rfl rfl rfl ?_
  refine e_aload_n (pc' := 67) dX8_takePeople_66 rfl rfl ?_
  refine e_aload_n (pc' := 68) dX8_takePeople_67 rfl rfl ?_
  refine e_getI (pc' := 71) (v := (σ.1 56 7)) dX8_takePeople_68 rfl f_8_37 h_56 rfl rfl ?_
  refine e_putI (pc' := 74) dX8_takePeople_71 rfl f_8_37 h_1 rfl rfl rfl ?_
  refine e_aload_n (pc' := 75) dX8_takePeople_74 rfl rfl ?_
  refine e_aload_n (pc' := 76) dX8_takePeople_75 rfl rfl ?_
  refine e_getI (pc' := 79) (v := (σ.1 56 8)) dX8_takePeople_76 rfl f_8_40 h_56 rfl rfl ?_
  refine e_putI (pc' := 82) dX8_takePeople_79 rfl f_8_40 h_1 rfl rfl rfl ?_
  refine e_iconst (pc' := 83) dX8_takePeople_82 rfl ?_
  refine e_istore_n (pc' := 84) (L' := [some (rv 1), some (rv 56), some (iv 0)]) dX8_takePeople_83 rfl (by decide) rfl ?_
  refine e_iload_n (pc' := 85) dX8_takePeople_84 rfl rfl ?_
  refine e_bipush (pc' := 87) (z := 15) dX8_takePeople_85 rfl (by decide) ?_
  refine e_icmpI (pc' := 90) (t := 103) dX8_takePeople_87 (by decide) rfl ⟨by omega, by omega⟩ ⟨by omega, by omega⟩ (fun c2_1 => absurd (show 15 ≤ (0 : Int) from c2_1) (by decide)) (fun _ => ?_)
  refine e_aload_n (pc' := 91) dX8_takePeople_90 rfl rfl ?_
  refine e_getR (pc' := 94) dX8_takePeople_91 rfl f_8_24 h_1 rfl ?_
  refine e_iload_n (pc' := 95) dX8_takePeople_94 rfl rfl ?_
  refine e_iconst (pc' := 96) dX8_takePeople_95 rfl ?_
  refine e_iast (pc' := 97) dX8_takePeople_96 rfl h_6 (by decide) (by omega) (by omega) ?_
  refine e_iinc (pc' := 100) (L' := [some (rv 1), some (rv 56), some (iv 1)]) dX8_takePeople_97 rfl rfl (by decide) rfl ?_
  refine e_goto (pc' := 84) dX8_takePeople_100 (by decide) ?_
  refine e_iload_n (pc' := 85) dX8_takePeople_84 rfl rfl ?_
  refine e_bipush (pc' := 87) (z := 15) dX8_takePeople_85 rfl (by decide) ?_
  refine e_icmpI (pc' := 90) (t := 103) dX8_takePeople_87 (by decide) rfl ⟨by omega, by omega⟩ ⟨by omega, by omega⟩ (fun c2_2 => absurd (show 15 ≤ (1 : Int) from c2_2) (by decide)) (fun _ => ?_)
  refine e_aload_n (pc' := 91) dX8_takePeople_90 rfl rfl ?_
  refine e_getR (pc' := 94) dX8_takePeople_91 rfl f_8_24 h_1 rfl ?_
  refine e_iload_n (pc' := 95) dX8_takePeople_94 rfl rfl ?_
  refine e_iconst (pc' := 96) dX8_takePeople_95 rfl ?_
  refine e_iast (pc' := 97) dX8_takePeople_96 rfl h_6 (by decide) (by omega) (by omega) ?_
  refine e_iinc (pc' := 100) (L' := [some (rv 1), some (rv 56), some (iv 2)]) dX8_takePeople_97 rfl rfl (by decide) rfl ?_
  refine e_goto (pc' := 84) dX8_takePeople_100 (by decide) ?_
  refine e_iload_n (pc' := 85) dX8_takePeople_84 rfl rfl ?_
  refine e_bipush (pc' := 87) (z := 15) dX8_takePeople_85 rfl (by decide) ?_
  refine e_icmpI (pc' := 90) (t := 103) dX8_takePeople_87 (by decide) rfl ⟨by omega, by omega⟩ ⟨by omega, by omega⟩ (fun c2_3 => absurd (show 15 ≤ (2 : Int) from c2_3) (by decide)) (fun _ => ?_)
  refine e_aload_n (pc' := 91) dX8_takePeople_90 rfl rfl ?_
  refine e_getR (pc' := 94) dX8_takePeople_91 rfl f_8_24 h_1 rfl ?_
  refine e_iload_n (pc' := 95) dX8_takePeople_94 rfl rfl ?_
  refine e_iconst (pc' := 96) dX8_takePeople_95 rfl ?_
  refine e_iast (pc' := 97) dX8_takePeople_96 rfl h_6 (by decide) (by omega) (by omega) ?_
  refine e_iinc (pc' := 100) (L' := [some (rv 1), some (rv 56), some (iv 3)]) dX8_takePeople_97 rfl rfl (by decide) rfl ?_
  refine e_goto (pc' := 84) dX8_takePeople_100 (by decide) ?_
  refine e_iload_n (pc' := 85) dX8_takePeople_84 rfl rfl ?_
  refine e_bipush (pc' := 87) (z := 15) dX8_takePeople_85 rfl (by decide) ?_
  refine e_icmpI (pc' := 90) (t := 103) dX8_takePeople_87 (by decide) rfl ⟨by omega, by omega⟩ ⟨by omega, by omega⟩ (fun c2_4 => absurd (show 15 ≤ (3 : Int) from c2_4) (by decide)) (fun _ => ?_)
  refine e_aload_n (pc' := 91) dX8_takePeople_90 rfl rfl ?_
  refine e_getR (pc' := 94) dX8_takePeople_91 rfl f_8_24 h_1 rfl ?_
  refine e_iload_n (pc' := 95) dX8_takePeople_94 rfl rfl ?_
  refine e_iconst (pc' := 96) dX8_takePeople_95 rfl ?_
  refine e_iast (pc' := 97) dX8_takePeople_96 rfl h_6 (by decide) (by omega) (by omega) ?_
  refine e_iinc (pc' := 100) (L' := [some (rv 1), some (rv 56), some (iv 4)]) dX8_takePeople_97 rfl rfl (by decide) rfl ?_
  refine e_goto (pc' := 84) dX8_takePeople_100 (by decide) ?_
  refine e_iload_n (pc' := 85) dX8_takePeople_84 rfl rfl ?_
  refine e_bipush (pc' := 87) (z := 15) dX8_takePeople_85 rfl (by decide) ?_
  refine e_icmpI (pc' := 90) (t := 103) dX8_takePeople_87 (by decide) rfl ⟨by omega, by omega⟩ ⟨by omega, by omega⟩ (fun c2_5 => absurd (show 15 ≤ (4 : Int) from c2_5) (by decide)) (fun _ => ?_)
  refine e_aload_n (pc' := 91) dX8_takePeople_90 rfl rfl ?_
  refine e_getR (pc' := 94) dX8_takePeople_91 rfl f_8_24 h_1 rfl ?_
  refine e_iload_n (pc' := 95) dX8_takePeople_94 rfl rfl ?_
  refine e_iconst (pc' := 96) dX8_takePeople_95 rfl ?_
  refine e_iast (pc' := 97) dX8_takePeople_96 rfl h_6 (by decide) (by omega) (by omega) ?_
  refine e_iinc (pc' := 100) (L' := [some (rv 1), some (rv 56), some (iv 5)]) dX8_takePeople_97 rfl rfl (by decide) rfl ?_
  refine e_goto (pc' := 84) dX8_takePeople_100 (by decide) ?_
  refine e_iload_n (pc' := 85) dX8_takePeople_84 rfl rfl ?_
  refine e_bipush (pc' := 87) (z := 15) dX8_takePeople_85 rfl (by decide) ?_
  refine e_icmpI (pc' := 90) (t := 103) dX8_takePeople_87 (by decide) rfl ⟨by omega, by omega⟩ ⟨by omega, by omega⟩ (fun c2_6 => absurd (show 15 ≤ (5 : Int) from c2_6) (by decide)) (fun _ => ?_)
  refine e_aload_n (pc' := 91) dX8_takePeople_90 rfl rfl ?_
  refine e_getR (pc' := 94) dX8_takePeople_91 rfl f_8_24 h_1 rfl ?_
  refine e_iload_n (pc' := 95) dX8_takePeople_94 rfl rfl ?_
  refine e_iconst (pc' := 96) dX8_takePeople_95 rfl ?_
  refine e_iast (pc' := 97) dX8_takePeople_96 rfl h_6 (by decide) (by omega) (by omega) ?_
  refine e_iinc (pc' := 100) (L' := [some (rv 1), some (rv 56), some (iv 6)]) dX8_takePeople_97 rfl rfl (by decide) rfl ?_
  refine e_goto (pc' := 84) dX8_takePeople_100 (by decide) ?_
  refine e_iload_n (pc' := 85) dX8_takePeople_84 rfl rfl ?_
  refine e_bipush (pc' := 87) (z := 15) dX8_takePeople_85 rfl (by decide) ?_
  refine e_icmpI (pc' := 90) (t := 103) dX8_takePeople_87 (by decide) rfl ⟨by omega, by omega⟩ ⟨by omega, by omega⟩ (fun c2_7 => absurd (show 15 ≤ (6 : Int) from c2_7) (by decide)) (fun _ => ?_)
  refine e_aload_n (pc' := 91) dX8_takePeople_90 rfl rfl ?_
  refine e_getR (pc' := 94) dX8_takePeople_91 rfl f_8_24 h_1 rfl ?_
  refine e_iload_n (pc' := 95) dX8_takePeople_94 rfl rfl ?_
  refine e_iconst (pc' := 96) dX8_takePeople_95 rfl ?_
  refine e_iast (pc' := 97) dX8_takePeople_96 rfl h_6 (by decide) (by omega) (by omega) ?_
  refine e_iinc (pc' := 100) (L' := [some (rv 1), some (rv 56), some (iv 7)]) dX8_takePeople_97 rfl rfl (by decide) rfl ?_
  refine e_goto (pc' := 84) dX8_takePeople_100 (by decide) ?_
  refine e_iload_n (pc' := 85) dX8_takePeople_84 rfl rfl ?_
  refine e_bipush (pc' := 87) (z := 15) dX8_takePeople_85 rfl (by decide) ?_
  refine e_icmpI (pc' := 90) (t := 103) dX8_takePeople_87 (by decide) rfl ⟨by omega, by omega⟩ ⟨by omega, by omega⟩ (fun c2_8 => absurd (show 15 ≤ (7 : Int) from c2_8) (by decide)) (fun _ => ?_)
  refine e_aload_n (pc' := 91) dX8_takePeople_90 rfl rfl ?_
  refine e_getR (pc' := 94) dX8_takePeople_91 rfl f_8_24 h_1 rfl ?_
  refine e_iload_n (pc' := 95) dX8_takePeople_94 rfl rfl ?_
  refine e_iconst (pc' := 96) dX8_takePeople_95 rfl ?_
  refine e_iast (pc' := 97) dX8_takePeople_96 rfl h_6 (by decide) (by omega) (by omega) ?_
  refine e_iinc (pc' := 100) (L' := [some (rv 1), some (rv 56), some (iv 8)]) dX8_takePeople_97 rfl rfl (by decide) rfl ?_
  refine e_goto (pc' := 84) dX8_takePeople_100 (by decide) ?_
  refine e_iload_n (pc' := 85) dX8_takePeople_84 rfl rfl ?_
  refine e_bipush (pc' := 87) (z := 15) dX8_takePeople_85 rfl (by decide) ?_
  refine e_icmpI (pc' := 90) (t := 103) dX8_takePeople_87 (by decide) rfl ⟨by omega, by omega⟩ ⟨by omega, by omega⟩ (fun c2_9 => absurd (show 15 ≤ (8 : Int) from c2_9) (by decide)) (fun _ => ?_)
  refine e_aload_n (pc' := 91) dX8_takePeople_90 rfl rfl ?_
  refine e_getR (pc' := 94) dX8_takePeople_91 rfl f_8_24 h_1 rfl ?_
  refine e_iload_n (pc' := 95) dX8_takePeople_94 rfl rfl ?_
  refine e_iconst (pc' := 96) dX8_takePeople_95 rfl ?_
  refine e_iast (pc' := 97) dX8_takePeople_96 rfl h_6 (by decide) (by omega) (by omega) ?_
  refine e_iinc (pc' := 100) (L' := [some (rv 1), some (rv 56), some (iv 9)]) dX8_takePeople_97 rfl rfl (by decide) rfl ?_
  refine e_goto (pc' := 84) dX8_takePeople_100 (by decide) ?_
  refine e_iload_n (pc' := 85) dX8_takePeople_84 rfl rfl ?_
  refine e_bipush (pc' := 87) (z := 15) dX8_takePeople_85 rfl (by decide) ?_
  refine e_icmpI (pc' := 90) (t := 103) dX8_takePeople_87 (by decide) rfl ⟨by omega, by omega⟩ ⟨by omega, by omega⟩ (fun c2_10 => absurd (show 15 ≤ (9 : Int) from c2_10) (by decide)) (fun _ => ?_)
  refine e_aload_n (pc' := 91) dX8_takePeople_90 rfl rfl ?_
  refine e_getR (pc' := 94) dX8_takePeople_91 rfl f_8_24 h_1 rfl ?_
  refine e_iload_n (pc' := 95) dX8_takePeople_94 rfl rfl ?_
  refine e_iconst (pc' := 96) dX8_takePeople_95 rfl ?_
  refine e_iast (pc' := 97) dX8_takePeople_96 rfl h_6 (by decide) (by omega) (by omega) ?_
  refine e_iinc (pc' := 100) (L' := [some (rv 1), some (rv 56), some (iv 10)]) dX8_takePeople_97 rfl rfl (by decide) rfl ?_
  refine e_goto (pc' := 84) dX8_takePeople_100 (by decide) ?_
  refine e_iload_n (pc' := 85) dX8_takePeople_84 rfl rfl ?_
  refine e_bipush (pc' := 87) (z := 15) dX8_takePeople_85 rfl (by decide) ?_
  refine e_icmpI (pc' := 90) (t := 103) dX8_takePeople_87 (by decide) rfl ⟨by omega, by omega⟩ ⟨by omega, by omega⟩ (fun c2_11 => absurd (show 15 ≤ (10 : Int) from c2_11) (by decide)) (fun _ => ?_)
  refine e_aload_n (pc' := 91) dX8_takePeople_90 rfl rfl ?_
  refine e_getR (pc' := 94) dX8_takePeople_91 rfl f_8_24 h_1 rfl ?_
  refine e_iload_n (pc' := 95) dX8_takePeople_94 rfl rfl ?_
  refine e_iconst (pc' := 96) dX8_takePeople_95 rfl ?_
  refine e_iast (pc' := 97) dX8_takePeople_96 rfl h_6 (by decide) (by omega) (by omega) ?_
  refine e_iinc (pc' := 100) (L' := [some (rv 1), some (rv 56), some (iv 11)]) dX8_takePeople_97 rfl rfl (by decide) rfl ?_
  refine e_goto (pc' := 84) dX8_takePeople_100 (by decide) ?_
  refine e_iload_n (pc' := 85) dX8_takePeople_84 rfl rfl ?_
  refine e_bipush (pc' := 87) (z := 15) dX8_takePeople_85 rfl (by decide) ?_
  refine e_icmpI (pc' := 90) (t := 103) dX8_takePeople_87 (by decide) rfl ⟨by omega, by omega⟩ ⟨by omega, by omega⟩ (fun c2_12 => absurd (show 15 ≤ (11 : Int) from c2_12) (by decide)) (fun _ => ?_)
  refine e_aload_n (pc' := 91) dX8_takePeople_90 rfl rfl ?_
  refine e_getR (pc' := 94) dX8_takePeople_91 rfl f_8_24 h_1 rfl ?_
  refine e_iload_n (pc' := 95) dX8_takePeople_94 rfl rfl ?_
  refine e_iconst (pc' := 96) dX8_takePeople_95 rfl ?_
  refine e_iast (pc' := 97) dX8_takePeople_96 rfl h_6 (by decide) (by omega) (by omega) ?_
  refine e_iinc (pc' := 100) (L' := [some (rv 1), some (rv 56), some (iv 12)]) dX8_takePeople_97 rfl rfl (by decide) rfl ?_
  refine e_goto (pc' := 84) dX8_takePeople_100 (by decide) ?_
  refine e_iload_n (pc' := 85) dX8_takePeople_84 rfl rfl ?_
  refine e_bipush (pc' := 87) (z := 15) dX8_takePeople_85 rfl (by decide) ?_
  refine e_icmpI (pc' := 90) (t := 103) dX8_takePeople_87 (by decide) rfl ⟨by omega, by omega⟩ ⟨by omega, by omega⟩ (fun c2_13 => absurd (show 15 ≤ (12 : Int) from c2_13) (by decide)) (fun _ => ?_)
  refine e_aload_n (pc' := 91) dX8_takePeople_90 rfl rfl ?_
  refine e_getR (pc' := 94) dX8_takePeople_91 rfl f_8_24 h_1 rfl ?_
  refine e_iload_n (pc' := 95) dX8_takePeople_94 rfl rfl ?_
  refine e_iconst (pc' := 96) dX8_takePeople_95 rfl ?_
  refine e_iast (pc' := 97) dX8_takePeople_96 rfl h_6 (by decide) (by omega) (by omega) ?_
  refine e_iinc (pc' := 100) (L' := [some (rv 1), some (rv 56), some (iv 13)]) dX8_takePeople_97 rfl rfl (by decide) rfl ?_
  refine e_goto (pc' := 84) dX8_takePeople_100 (by decide) ?_
  refine e_iload_n (pc' := 85) dX8_takePeople_84 rfl rfl ?_
  refine e_bipush (pc' := 87) (z := 15) dX8_takePeople_85 rfl (by decide) ?_
  refine e_icmpI (pc' := 90) (t := 103) dX8_takePeople_87 (by decide) rfl ⟨by omega, by omega⟩ ⟨by omega, by omega⟩ (fun c2_14 => absurd (show 15 ≤ (13 : Int) from c2_14) (by decide)) (fun _ => ?_)
  refine e_aload_n (pc' := 91) dX8_takePeople_90 rfl rfl ?_
  refine e_getR (pc' := 94) dX8_takePeople_91 rfl f_8_24 h_1 rfl ?_
  refine e_iload_n (pc' := 95) dX8_takePeople_94 rfl rfl ?_
  refine e_iconst (pc' := 96) dX8_takePeople_95 rfl ?_
  refine e_iast (pc' := 97) dX8_takePeople_96 rfl h_6 (by decide) (by omega) (by omega) ?_
  refine e_iinc (pc' := 100) (L' := [some (rv 1), some (rv 56), some (iv 14)]) dX8_takePeople_97 rfl rfl (by decide) rfl ?_
  refine e_goto (pc' := 84) dX8_takePeople_100 (by decide) ?_
  refine e_iload_n (pc' := 85) dX8_takePeople_84 rfl rfl ?_
  refine e_bipush (pc' := 87) (z := 15) dX8_takePeople_85 rfl (by decide) ?_
  refine e_icmpI (pc' := 90) (t := 103) dX8_takePeople_87 (by decide) rfl ⟨by omega, by omega⟩ ⟨by omega, by omega⟩ (fun c2_15 => absurd (show 15 ≤ (14 : Int) from c2_15) (by decide)) (fun _ => ?_)
  refine e_aload_n (pc' := 91) dX8_takePeople_90 rfl rfl ?_
  refine e_getR (pc' := 94) dX8_takePeople_91 rfl f_8_24 h_1 rfl ?_
  refine e_iload_n (pc' := 95) dX8_takePeople_94 rfl rfl ?_
  refine e_iconst (pc' := 96) dX8_takePeople_95 rfl ?_
  refine e_iast (pc' := 97) dX8_takePeople_96 rfl h_6 (by decide) (by omega) (by omega) ?_
  refine e_iinc (pc' := 100) (L' := [some (rv 1), some (rv 56), some (iv 15)]) dX8_takePeople_97 rfl rfl (by decide) rfl ?_
  refine e_goto (pc' := 84) dX8_takePeople_100 (by decide) ?_
  refine e_iload_n (pc' := 85) dX8_takePeople_84 rfl rfl ?_
  refine e_bipush (pc' := 87) (z := 15) dX8_takePeople_85 rfl (by decide) ?_
  refine e_icmpI (pc' := 90) (t := 103) dX8_takePeople_87 (by decide) rfl ⟨by omega, by omega⟩ ⟨by omega, by omega⟩ (fun _ => ?_) (fun c2_16 => absurd (show 15 ≤ (15 : Int) by decide) c2_16)
  exact e_vret dX8_takePeople_103 rfl ⟨rfl, Nat.le_refl _⟩ ⟨rfl, ⟨⟨rfl, rfl, rfl⟩, ⟨rfl, rfl, rfl⟩, fun j a b => cpy0 a b, fun j a b => cpy0 a b, fun j a b => ⟨cpy0 a b, cpy0 a b⟩, zero15 rfl rfl rfl rfl rfl rfl rfl rfl rfl rfl rfl rfl rfl rfl rfl⟩, (by repeat (first | exact Fr.rf | (refine fr_I ?_ (by decide)) | (refine fr_J ?_ (by decide)) | (refine fr_C ?_ (by decide))))⟩

set_option maxHeartbeats 4000000 in
set_option maxRecDepth 100000 in
theorem s_rtake_8_63 {X : AX} {d : Nat} {σ : SG} : Ev X 0 0 (d + 1) mX7_take 0 [some (rv 8), some (rv 63)] [] σ (QV (fun σ' => RlEq σ' 8 σ 63 ∧ Fr [8, 9, 10] σ σ')) := by
  refine e_aload_n (pc' := 1) dX7_take_0 rfl rfl ?_
  refine e_getR (pc' := 4) dX7_take_1 rfl f_7_9 h_63 rfl ?_
  refine e_iconst (pc' := 5) dX7_take_4 rfl ?_
  refine e_aload_n (pc' := 6) dX7_take_5 rfl rfl ?_
  refine e_getR (pc' := 9) dX7_take_6 rfl f_7_9 h_8 rfl ?_
  refine e_iconst (pc' := 10) dX7_take_9 rfl ?_
  refine e_bipush (pc' := 12) (z := 40) dX7_take_10 rfl (by decide) ?_
  refine e_copy (pc' := 15) dX7_take_12 rfl p_7_28 h_64 h_9 ⟨by omega, by omega, by omega, by omega, by omega, by decide, by decide⟩ (Nat.le_of_ble_eq_true rfl) ?_
  refine e_aload_n (pc' := 16) dX7_take_15 rfl rfl ?_
  refine e_getR (pc' := 19) dX7_take_16 rfl f_7_15 h_63 rfl ?_
  refine e_iconst (pc' := 20) dX7_take_19 rfl ?_
  refine e_aload_n (pc' := 21) dX7_take_20 rfl rfl ?_
  refine e_getR (pc' := 24) dX7_take_21 rfl f_7_15 h_8 rfl ?_
  refine e_iconst (pc' := 25) dX7_take_24 rfl ?_
  refine e_bipush (pc' := 27) (z := 40) dX7_take_25 rfl (by decide) ?_
  refine e_copy (pc' := 30) dX7_take_27 rfl p_7_28 h_65 h_10 ⟨by omega, by omega, by omega, by omega, by omega, by decide, by decide⟩ (Nat.le_of_ble_eq_true rfl) ?_
  refine e_aload_n (pc' := 31) dX7_take_30 rfl rfl ?_
  refine e_aload_n (pc' := 32) dX7_take_31 rfl rfl ?_
  refine e_getI (pc' := 35) (v := (σ.1 63 2)) dX7_take_32 rfl f_7_18 h_63 rfl rfl ?_
  refine e_putI (pc' := 38) dX7_take_35 rfl f_7_18 h_8 rfl rfl rfl ?_
  refine e_aload_n (pc' := 39) dX7_take_38 rfl rfl ?_
  refine e_aload_n (pc' := 40) dX7_take_39 rfl rfl ?_
  refine e_getI (pc' := 43) (v := (σ.1 63 3)) dX7_take_40 rfl f_7_22 h_63 rfl rfl ?_
  refine e_putI (pc' := 46) dX7_take_43 rfl f_7_22 h_8 rfl rfl rfl ?_
  refine e_aload_n (pc' := 47) dX7_take_46 rfl rfl ?_
  refine e_aload_n (pc' := 48) dX7_take_47 rfl rfl ?_
  refine e_getI (pc' := 51) (v := (σ.1 63 4)) dX7_take_48 rfl f_7_25 h_63 rfl rfl ?_
  refine e_putI (pc' := 54) dX7_take_51 rfl f_7_25 h_8 rfl rfl rfl ?_
  exact e_vret dX7_take_54 rfl ⟨rfl, Nat.le_refl _⟩ ⟨rfl, ⟨⟨rfl, rfl, rfl⟩, fun j a b => ⟨cpy0 a b, cpy0 a b⟩⟩, (by repeat (first | exact Fr.rf | (refine fr_I ?_ (by decide)) | (refine fr_J ?_ (by decide)) | (refine fr_C ?_ (by decide))))⟩

set_option maxHeartbeats 4000000 in
set_option maxRecDepth 100000 in
theorem s_rtake_11_66 {X : AX} {d : Nat} {σ : SG} : Ev X 0 0 (d + 1) mX7_take 0 [some (rv 11), some (rv 66)] [] σ (QV (fun σ' => RlEq σ' 11 σ 66 ∧ Fr [11, 12, 13] σ σ')) := by
  refine e_aload_n (pc' := 1) dX7_take_0 rfl rfl ?_
  refine e_getR (pc' := 4) dX7_take_1 rfl f_7_9 h_66 rfl ?_
  refine e_iconst (pc' := 5) dX7_take_4 rfl ?_
  refine e_aload_n (pc' := 6) dX7_take_5 rfl rfl ?_
  refine e_getR (pc' := 9) dX7_take_6 rfl f_7_9 h_11 rfl ?_
  refine e_iconst (pc' := 10) dX7_take_9 rfl ?_
  refine e_bipush (pc' := 12) (z := 40) dX7_take_10 rfl (by decide) ?_
  refine e_copy (pc' := 15) dX7_take_12 rfl p_7_28 h_67 h_12 ⟨by omega, by omega, by omega, by omega, by omega, by decide, by decide⟩ (Nat.le_of_ble_eq_true rfl) ?_
  refine e_aload_n (pc' := 16) dX7_take_15 rfl rfl ?_
  refine e_getR (pc' := 19) dX7_take_16 rfl f_7_15 h_66 rfl ?_
  refine e_iconst (pc' := 20) dX7_take_19 rfl ?_
  refine e_aload_n (pc' := 21) dX7_take_20 rfl rfl ?_
  refine e_getR (pc' := 24) dX7_take_21 rfl f_7_15 h_11 rfl ?_
  refine e_iconst (pc' := 25) dX7_take_24 rfl ?_
  refine e_bipush (pc' := 27) (z := 40) dX7_take_25 rfl (by decide) ?_
  refine e_copy (pc' := 30) dX7_take_27 rfl p_7_28 h_68 h_13 ⟨by omega, by omega, by omega, by omega, by omega, by decide, by decide⟩ (Nat.le_of_ble_eq_true rfl) ?_
  refine e_aload_n (pc' := 31) dX7_take_30 rfl rfl ?_
  refine e_aload_n (pc' := 32) dX7_take_31 rfl rfl ?_
  refine e_getI (pc' := 35) (v := (σ.1 66 2)) dX7_take_32 rfl f_7_18 h_66 rfl rfl ?_
  refine e_putI (pc' := 38) dX7_take_35 rfl f_7_18 h_11 rfl rfl rfl ?_
  refine e_aload_n (pc' := 39) dX7_take_38 rfl rfl ?_
  refine e_aload_n (pc' := 40) dX7_take_39 rfl rfl ?_
  refine e_getI (pc' := 43) (v := (σ.1 66 3)) dX7_take_40 rfl f_7_22 h_66 rfl rfl ?_
  refine e_putI (pc' := 46) dX7_take_43 rfl f_7_22 h_11 rfl rfl rfl ?_
  refine e_aload_n (pc' := 47) dX7_take_46 rfl rfl ?_
  refine e_aload_n (pc' := 48) dX7_take_47 rfl rfl ?_
  refine e_getI (pc' := 51) (v := (σ.1 66 4)) dX7_take_48 rfl f_7_25 h_66 rfl rfl ?_
  refine e_putI (pc' := 54) dX7_take_51 rfl f_7_25 h_11 rfl rfl rfl ?_
  exact e_vret dX7_take_54 rfl ⟨rfl, Nat.le_refl _⟩ ⟨rfl, ⟨⟨rfl, rfl, rfl⟩, fun j a b => ⟨cpy0 a b, cpy0 a b⟩⟩, (by repeat (first | exact Fr.rf | (refine fr_I ?_ (by decide)) | (refine fr_J ?_ (by decide)) | (refine fr_C ?_ (by decide))))⟩

set_option maxHeartbeats 4000000 in
set_option maxRecDepth 100000 in
theorem s_rtake_14_69 {X : AX} {d : Nat} {σ : SG} : Ev X 0 0 (d + 1) mX7_take 0 [some (rv 14), some (rv 69)] [] σ (QV (fun σ' => RlEq σ' 14 σ 69 ∧ Fr [14, 15, 16] σ σ')) := by
  refine e_aload_n (pc' := 1) dX7_take_0 rfl rfl ?_
  refine e_getR (pc' := 4) dX7_take_1 rfl f_7_9 h_69 rfl ?_
  refine e_iconst (pc' := 5) dX7_take_4 rfl ?_
  refine e_aload_n (pc' := 6) dX7_take_5 rfl rfl ?_
  refine e_getR (pc' := 9) dX7_take_6 rfl f_7_9 h_14 rfl ?_
  refine e_iconst (pc' := 10) dX7_take_9 rfl ?_
  refine e_bipush (pc' := 12) (z := 40) dX7_take_10 rfl (by decide) ?_
  refine e_copy (pc' := 15) dX7_take_12 rfl p_7_28 h_70 h_15 ⟨by omega, by omega, by omega, by omega, by omega, by decide, by decide⟩ (Nat.le_of_ble_eq_true rfl) ?_
  refine e_aload_n (pc' := 16) dX7_take_15 rfl rfl ?_
  refine e_getR (pc' := 19) dX7_take_16 rfl f_7_15 h_69 rfl ?_
  refine e_iconst (pc' := 20) dX7_take_19 rfl ?_
  refine e_aload_n (pc' := 21) dX7_take_20 rfl rfl ?_
  refine e_getR (pc' := 24) dX7_take_21 rfl f_7_15 h_14 rfl ?_
  refine e_iconst (pc' := 25) dX7_take_24 rfl ?_
  refine e_bipush (pc' := 27) (z := 40) dX7_take_25 rfl (by decide) ?_
  refine e_copy (pc' := 30) dX7_take_27 rfl p_7_28 h_71 h_16 ⟨by omega, by omega, by omega, by omega, by omega, by decide, by decide⟩ (Nat.le_of_ble_eq_true rfl) ?_
  refine e_aload_n (pc' := 31) dX7_take_30 rfl rfl ?_
  refine e_aload_n (pc' := 32) dX7_take_31 rfl rfl ?_
  refine e_getI (pc' := 35) (v := (σ.1 69 2)) dX7_take_32 rfl f_7_18 h_69 rfl rfl ?_
  refine e_putI (pc' := 38) dX7_take_35 rfl f_7_18 h_14 rfl rfl rfl ?_
  refine e_aload_n (pc' := 39) dX7_take_38 rfl rfl ?_
  refine e_aload_n (pc' := 40) dX7_take_39 rfl rfl ?_
  refine e_getI (pc' := 43) (v := (σ.1 69 3)) dX7_take_40 rfl f_7_22 h_69 rfl rfl ?_
  refine e_putI (pc' := 46) dX7_take_43 rfl f_7_22 h_14 rfl rfl rfl ?_
  refine e_aload_n (pc' := 47) dX7_take_46 rfl rfl ?_
  refine e_aload_n (pc' := 48) dX7_take_47 rfl rfl ?_
  refine e_getI (pc' := 51) (v := (σ.1 69 4)) dX7_take_48 rfl f_7_25 h_69 rfl rfl ?_
  refine e_putI (pc' := 54) dX7_take_51 rfl f_7_25 h_14 rfl rfl rfl ?_
  exact e_vret dX7_take_54 rfl ⟨rfl, Nat.le_refl _⟩ ⟨rfl, ⟨⟨rfl, rfl, rfl⟩, fun j a b => ⟨cpy0 a b, cpy0 a b⟩⟩, (by repeat (first | exact Fr.rf | (refine fr_I ?_ (by decide)) | (refine fr_J ?_ (by decide)) | (refine fr_C ?_ (by decide))))⟩

set_option maxHeartbeats 4000000 in
set_option maxRecDepth 100000 in
theorem s_take_1_56 {X : AX} {d : Nat} {σ : SG} : Ev X 0 0 (d + 2) mX8_take 0 [some (rv 1), some (rv 56), none] [] σ (QV (fun σ' => SnEq σ' 1 σ 56 ∧ Fr [1, 2, 3, 4, 5, 6, 8, 9, 10, 11, 12, 13, 14, 15, 16] σ σ')) := by
  refine e_aload_n (pc' := 1) dX8_take_0 rfl rfl ?_
  refine e_aload_n (pc' := 2) dX8_take_1 rfl rfl ?_
  refine e_cv1v (pc' := 5) dX8_take_2 rfl k_8_53 h_1 rfl (Nat.le_of_ble_eq_true rfl) rfl rfl ⟨rfl, rfl⟩ ⟨Nat.zero_le _, Nat.zero_le _⟩ s_takePeople_1_56 ?_
  rintro τ1 ⟨hP1, hG1⟩
  refine e_aload_n (pc' := 6) dX8_take_5 rfl rfl ?_
  refine e_getR (pc' := 9) dX8_take_6 rfl f_8_24 h_56 rfl ?_
  refine e_iconst (pc' := 10) dX8_take_9 rfl ?_
  refine e_aload_n (pc' := 11) dX8_take_10 rfl rfl ?_
  refine e_getR (pc' := 14) dX8_take_11 rfl f_8_24 h_1 rfl ?_
  refine e_iconst (pc' := 15) dX8_take_14 rfl ?_
  refine e_bipush (pc' := 17) (z := 15) dX8_take_15 rfl (by decide) ?_
  refine e_copy (pc' := 20) dX8_take_17 rfl p_8_57 h_61 h_6 ⟨by omega, by omega, by omega, by omega, by omega, by decide, by decide⟩ (Nat.le_of_ble_eq_true rfl) ?_
  refine e_iconst (pc' := 21) dX8_take_20 rfl ?_
  refine e_istore_n (pc' := 22) (L' := [some (rv 1), some (rv 56), some (iv 0)]) dX8_take_21 rfl (by decide) rfl ?_
  refine e_iload_n (pc' := 23) dX8_take_22 rfl rfl ?_
  refine e_iconst (pc' := 24) dX8_take_23 rfl ?_
  refine e_icmpI (pc' := 27) (t := 48) dX8_take_24 (by decide) rfl ⟨by omega, by omega⟩ ⟨by omega, by omega⟩ (fun c2_1 => absurd (show 3 ≤ (0 : Int) from c2_1) (by decide)) (fun _ => ?_)
  refine e_aload_n (pc' := 28) dX8_take_27 rfl rfl ?_
  refine e_getR (pc' := 31) dX8_take_28 rfl f_8_29 h_1 rfl ?_
  refine e_iload_n (pc' := 32) dX8_take_31 rfl rfl ?_
  refine e_aald (pc' := 33) (k := 8) dX8_take_32 rfl h_7 (by decide) (by decide) (by omega) (by omega) rfl ?_
  refine e_aload_n (pc' := 34) dX8_take_33 rfl rfl ?_
  refine e_getR (pc' := 37) dX8_take_34 rfl f_8_29 h_56 rfl ?_
  refine e_iload_n (pc' := 38) dX8_take_37 rfl rfl ?_
  refine e_aald (pc' := 39) (k := 63) dX8_take_38 rfl h_62 (by decide) (by decide) (by omega) (by omega) rfl ?_
  refine e_cv1v (pc' := 42) dX8_take_39 rfl k_8_63 h_8 rfl (Nat.le_of_ble_eq_true rfl) rfl rfl ⟨rfl, rfl⟩ ⟨Nat.zero_le _, Nat.zero_le _⟩ s_rtake_8_63 ?_
  rintro τ2 ⟨hP2, hG2⟩
  refine e_iinc (pc' := 45) (L' := [some (rv 1), some (rv 56), some (iv 1)]) dX8_take_42 rfl rfl (by decide) rfl ?_
  refine e_goto (pc' := 22) dX8_take_45 (by decide) ?_
  refine e_iload_n (pc' := 23) dX8_take_22 rfl rfl ?_
  refine e_iconst (pc' := 24) dX8_take_23 rfl ?_
  refine e_icmpI (pc' := 27) (t := 48) dX8_take_24 (by decide) rfl ⟨by omega, by omega⟩ ⟨by omega, by omega⟩ (fun c2_2 => absurd (show 3 ≤ (1 : Int) from c2_2) (by decide)) (fun _ => ?_)
  refine e_aload_n (pc' := 28) dX8_take_27 rfl rfl ?_
  refine e_getR (pc' := 31) dX8_take_28 rfl f_8_29 h_1 rfl ?_
  refine e_iload_n (pc' := 32) dX8_take_31 rfl rfl ?_
  refine e_aald (pc' := 33) (k := 11) dX8_take_32 rfl h_7 (by decide) (by decide) (by omega) (by omega) rfl ?_
  refine e_aload_n (pc' := 34) dX8_take_33 rfl rfl ?_
  refine e_getR (pc' := 37) dX8_take_34 rfl f_8_29 h_56 rfl ?_
  refine e_iload_n (pc' := 38) dX8_take_37 rfl rfl ?_
  refine e_aald (pc' := 39) (k := 66) dX8_take_38 rfl h_62 (by decide) (by decide) (by omega) (by omega) rfl ?_
  refine e_cv1v (pc' := 42) dX8_take_39 rfl k_8_63 h_11 rfl (Nat.le_of_ble_eq_true rfl) rfl rfl ⟨rfl, rfl⟩ ⟨Nat.zero_le _, Nat.zero_le _⟩ s_rtake_11_66 ?_
  rintro τ3 ⟨hP3, hG3⟩
  refine e_iinc (pc' := 45) (L' := [some (rv 1), some (rv 56), some (iv 2)]) dX8_take_42 rfl rfl (by decide) rfl ?_
  refine e_goto (pc' := 22) dX8_take_45 (by decide) ?_
  refine e_iload_n (pc' := 23) dX8_take_22 rfl rfl ?_
  refine e_iconst (pc' := 24) dX8_take_23 rfl ?_
  refine e_icmpI (pc' := 27) (t := 48) dX8_take_24 (by decide) rfl ⟨by omega, by omega⟩ ⟨by omega, by omega⟩ (fun c2_3 => absurd (show 3 ≤ (2 : Int) from c2_3) (by decide)) (fun _ => ?_)
  refine e_aload_n (pc' := 28) dX8_take_27 rfl rfl ?_
  refine e_getR (pc' := 31) dX8_take_28 rfl f_8_29 h_1 rfl ?_
  refine e_iload_n (pc' := 32) dX8_take_31 rfl rfl ?_
  refine e_aald (pc' := 33) (k := 14) dX8_take_32 rfl h_7 (by decide) (by decide) (by omega) (by omega) rfl ?_
  refine e_aload_n (pc' := 34) dX8_take_33 rfl rfl ?_
  refine e_getR (pc' := 37) dX8_take_34 rfl f_8_29 h_56 rfl ?_
  refine e_iload_n (pc' := 38) dX8_take_37 rfl rfl ?_
  refine e_aald (pc' := 39) (k := 69) dX8_take_38 rfl h_62 (by decide) (by decide) (by omega) (by omega) rfl ?_
  refine e_cv1v (pc' := 42) dX8_take_39 rfl k_8_63 h_14 rfl (Nat.le_of_ble_eq_true rfl) rfl rfl ⟨rfl, rfl⟩ ⟨Nat.zero_le _, Nat.zero_le _⟩ s_rtake_14_69 ?_
  rintro τ4 ⟨hP4, hG4⟩
  refine e_iinc (pc' := 45) (L' := [some (rv 1), some (rv 56), some (iv 3)]) dX8_take_42 rfl rfl (by decide) rfl ?_
  refine e_goto (pc' := 22) dX8_take_45 (by decide) ?_
  refine e_iload_n (pc' := 23) dX8_take_22 rfl rfl ?_
  refine e_iconst (pc' := 24) dX8_take_23 rfl ?_
  refine e_icmpI (pc' := 27) (t := 48) dX8_take_24 (by decide) rfl ⟨by omega, by omega⟩ ⟨by omega, by omega⟩ (fun _ => ?_) (fun c2_4 => absurd (show 3 ≤ (3 : Int) by decide) c2_4)
  refine e_aload_n (pc' := 49) dX8_take_48 rfl rfl ?_
  refine e_aload_n (pc' := 50) dX8_take_49 rfl rfl ?_
  refine e_getI (pc' := 53) (v := (σ.1 56 9)) dX8_take_50 rfl f_8_43 h_56 rfl ((congrFun (hG4 56 (by decide)).1 9).trans ((congrFun (hG3 56 (by decide)).1 9).trans ((congrFun (hG2 56 (by decide)).1 9).trans ((congrFun (hG1 56 (by decide)).1 9).trans rfl)))) ?_
  refine e_putI (pc' := 56) dX8_take_53 rfl f_8_43 h_1 rfl rfl rfl ?_
  refine e_aload_n (pc' := 57) dX8_take_56 rfl rfl ?_
  refine e_aload_n (pc' := 58) dX8_take_57 rfl rfl ?_
  refine e_getI (pc' := 61) (v := (σ.1 56 10)) dX8_take_58 rfl f_8_46 h_56 rfl ((congrFun (hG4 56 (by decide)).1 10).trans ((congrFun (hG3 56 (by decide)).1 10).trans ((congrFun (hG2 56 (by decide)).1 10).trans ((congrFun (hG1 56 (by decide)).1 10).trans rfl)))) ?_
  refine e_putI (pc' := 64) dX8_take_61 rfl f_8_46 h_1 rfl rfl rfl ?_
  refine e_aload_n (pc' := 65) dX8_take_64 rfl rfl ?_
  refine e_aload_n (pc' := 66) dX8_take_65 rfl rfl ?_
  refine e_getI (pc' := 69) (v := (σ.1 56 11)) dX8_take_66 rfl f_8_49 h_56 rfl ((congrFun (hG4 56 (by decide)).1 11).trans ((congrFun (hG3 56 (by decide)).1 11).trans ((congrFun (hG2 56 (by decide)).1 11).trans ((congrFun (hG1 56 (by decide)).1 11).trans rfl)))) ?_
  refine e_putI (pc' := 72) dX8_take_69 rfl f_8_49 h_1 rfl rfl rfl ?_
  exact e_vret dX8_take_72 rfl ⟨rfl, Nat.le_refl _⟩ (by
        have q1 : τ4.1 1 = ((upC τ1 6 (cpyA (τ1.1 61) (τ1.1 6) 0 0 15))).1 1 := (hG4 1 (by decide)).1.trans ((hG3 1 (by decide)).1.trans (hG2 1 (by decide)).1)
        have q2 : τ4.1 2 = ((upC τ1 6 (cpyA (τ1.1 61) (τ1.1 6) 0 0 15))).1 2 := (hG4 2 (by decide)).1.trans ((hG3 2 (by decide)).1.trans (hG2 2 (by decide)).1)
        have q3 : τ4.1 3 = ((upC τ1 6 (cpyA (τ1.1 61) (τ1.1 6) 0 0 15))).1 3 := (hG4 3 (by decide)).1.trans ((hG3 3 (by decide)).1.trans (hG2 3 (by decide)).1)
        have q4 : τ4.1 4 = ((upC τ1 6 (cpyA (τ1.1 61) (τ1.1 6) 0 0 15))).1 4 := (hG4 4 (by decide)).1.trans ((hG3 4 (by decide)).1.trans (hG2 4 (by decide)).1)
        have q5 : τ4.1 5 = ((upC τ1 6 (cpyA (τ1.1 61) (τ1.1 6) 0 0 15))).1 5 := (hG4 5 (by decide)).1.trans ((hG3 5 (by decide)).1.trans (hG2 5 (by decide)).1)
        have q6 : τ4.1 6 = ((upC τ1 6 (cpyA (τ1.1 61) (τ1.1 6) 0 0 15))).1 6 := (hG4 6 (by decide)).1.trans ((hG3 6 (by decide)).1.trans (hG2 6 (by decide)).1)
        have c5 : τ1.1 61 = σ.1 61 := (hG1 61 (by decide)).1
        have a00 : τ4.1 8 = τ2.1 8 := (hG4 8 (by decide)).1.trans (hG3 8 (by decide)).1
        have b00 : ((upC τ1 6 (cpyA (τ1.1 61) (τ1.1 6) 0 0 15))).1 63 = σ.1 63 := (show ((upC τ1 6 (cpyA (τ1.1 61) (τ1.1 6) 0 0 15))).1 63 = σ.1 63 from (hG1 63 (by decide)).1)
        have a01 : τ4.1 9 = τ2.1 9 := (hG4 9 (by decide)).1.trans (hG3 9 (by decide)).1
        have b01 : ((upC τ1 6 (cpyA (τ1.1 61) (τ1.1 6) 0 0 15))).1 64 = σ.1 64 := (show ((upC τ1 6 (cpyA (τ1.1 61) (τ1.1 6) 0 0 15))).1 64 = σ.1 64 from (hG1 64 (by decide)).1)
        have a02 : τ4.1 10 = τ2.1 10 := (hG4 10 (by decide)).1.trans (hG3 10 (by decide)).1
        have b02 : ((upC τ1 6 (cpyA (τ1.1 61) (τ1.1 6) 0 0 15))).1 65 = σ.1 65 := (show ((upC τ1 6 (cpyA (τ1.1 61) (τ1.1 6) 0 0 15))).1 65 = σ.1 65 from (hG1 65 (by decide)).1)
        have a10 : τ4.1 11 = τ3.1 11 := (hG4 11 (by decide)).1
        have b10 : (τ2).1 66 = σ.1 66 := (hG2 66 (by decide)).1.trans (show ((upC τ1 6 (cpyA (τ1.1 61) (τ1.1 6) 0 0 15))).1 66 = σ.1 66 from (hG1 66 (by decide)).1)
        have a11 : τ4.1 12 = τ3.1 12 := (hG4 12 (by decide)).1
        have b11 : (τ2).1 67 = σ.1 67 := (hG2 67 (by decide)).1.trans (show ((upC τ1 6 (cpyA (τ1.1 61) (τ1.1 6) 0 0 15))).1 67 = σ.1 67 from (hG1 67 (by decide)).1)
        have a12 : τ4.1 13 = τ3.1 13 := (hG4 13 (by decide)).1
        have b12 : (τ2).1 68 = σ.1 68 := (hG2 68 (by decide)).1.trans (show ((upC τ1 6 (cpyA (τ1.1 61) (τ1.1 6) 0 0 15))).1 68 = σ.1 68 from (hG1 68 (by decide)).1)
        have a20 : τ4.1 14 = τ4.1 14 := rfl
        have b20 : (τ3).1 69 = σ.1 69 := (hG3 69 (by decide)).1.trans ((hG2 69 (by decide)).1.trans (show ((upC τ1 6 (cpyA (τ1.1 61) (τ1.1 6) 0 0 15))).1 69 = σ.1 69 from (hG1 69 (by decide)).1))
        have a21 : τ4.1 15 = τ4.1 15 := rfl
        have b21 : (τ3).1 70 = σ.1 70 := (hG3 70 (by decide)).1.trans ((hG2 70 (by decide)).1.trans (show ((upC τ1 6 (cpyA (τ1.1 61) (τ1.1 6) 0 0 15))).1 70 = σ.1 70 from (hG1 70 (by decide)).1))
        have a22 : τ4.1 16 = τ4.1 16 := rfl
        have b22 : (τ3).1 71 = σ.1 71 := (hG3 71 (by decide)).1.trans ((hG2 71 (by decide)).1.trans (show ((upC τ1 6 (cpyA (τ1.1 61) (τ1.1 6) 0 0 15))).1 71 = σ.1 71 from (hG1 71 (by decide)).1))
        have hF4 : Fr [1, 2, 3, 4, 5, 6, 8, 9, 10, 11, 12, 13, 14, 15, 16] σ τ4 := (fr_C (hG1.mono (by decide)) (by decide)).tr ((hG2.mono (by decide)).tr ((hG3.mono (by decide)).tr (hG4.mono (by decide))))
        refine ⟨rfl, ⟨⟨(congrFun q1 6).trans hP1.1.1, (congrFun q1 7).trans hP1.1.2.1, (congrFun q1 8).trans hP1.1.2.2⟩, ⟨rfl, rfl, rfl⟩, fun j a b => (congrFun q2 j).trans (hP1.2.2.1 j a b), fun j a b => (congrFun q3 j).trans (hP1.2.2.2.1 j a b), fun j a b => ⟨(congrFun q4 j).trans (hP1.2.2.2.2.1 j a b).1, (congrFun q5 j).trans (hP1.2.2.2.2.1 j a b).2⟩, fun j a b => (congrFun q6 j).trans ((cpy0 a b).trans (congrFun c5 j)), ?_, ?_, ?_⟩, fr_I (fr_I (fr_I hF4 (by decide)) (by decide)) (by decide)⟩
        · exact hP2.cg a00 a01 a02 b00 b01 b02
        · exact hP3.cg a10 a11 a12 b10 b11 b12
        · exact hP4.cg a20 a21 a22 b20 b21 b22)

set_option maxHeartbeats 4000000 in
set_option maxRecDepth 100000 in
theorem s_takePeople_1_72 {X : AX} {d : Nat} {σ : SG} : Ev X 0 0 (d + 1) mX8_takePeople 0 [some (rv 1), some (rv 72), none] [] σ (QV (fun σ' => PeI σ' 1 σ 72 ∧ Fr [1, 2, 3, 4, 5, 6] σ σ')) := by
  refine e_aload_n (pc' := 1) dX8_takePeople_0 rfl rfl ?_
  refine e_getR (pc' := 4) dX8_takePeople_1 rfl f_8_9 h_72 rfl ?_
  refine e_iconst (pc' := 5) dX8_takePeople_4 rfl ?_
  refine e_aload_n (pc' := 6) dX8_takePeople_5 rfl rfl ?_
  refine e_getR (pc' := 9) dX8_takePeople_6 rfl f_8_9 h_1 rfl ?_
  refine e_iconst (pc' := 10) dX8_takePeople_9 rfl ?_
  refine e_iconst (pc' := 11) dX8_takePeople_10 rfl ?_
  refine e_copy (pc' := 14) dX8_takePeople_11 rfl p_8_57 h_73 h_2 ⟨by omega, by omega, by omega, by omega, by omega, by decide, by decide⟩ (Nat.le_of_ble_eq_true rfl) ?_
  refine e_aload_n (pc' := 15) dX8_takePeople_14 rfl rfl ?_
  refine e_getR (pc' := 18) dX8_takePeople_15 rfl f_8_15 h_72 rfl ?_
  refine e_iconst (pc' := 19) dX8_takePeople_18 rfl ?_
  refine e_aload_n (pc' := 20) dX8_takePeople_19 rfl rfl ?_
  refine e_getR (pc' := 23) dX8_takePeople_20 rfl f_8_15 h_1 rfl ?_
  refine e_iconst (pc' := 24) dX8_takePeople_23 rfl ?_
  refine e_iconst (pc' := 25) dX8_takePeople_24 rfl ?_
  refine e_copy (pc' := 28) dX8_takePeople_25 rfl p_8_57 h_74 h_3 ⟨by omega, by omega, by omega, by omega, by omega, by decide, by decide⟩ (Nat.le_of_ble_eq_true rfl) ?_
  refine e_aload_n (pc' := 29) dX8_takePeople_28 rfl rfl ?_
  refine e_getR (pc' := 32) dX8_takePeople_29 rfl f_8_18 h_72 rfl ?_
  refine e_iconst (pc' := 33) dX8_takePeople_32 rfl ?_
  refine e_aload_n (pc' := 34) dX8_takePeople_33 rfl rfl ?_
  refine e_getR (pc' := 37) dX8_takePeople_34 rfl f_8_18 h_1 rfl ?_
  refine e_iconst (pc' := 38) dX8_takePeople_37 rfl ?_
  refine e_bipush (pc' := 40) (z := 15) dX8_takePeople_38 rfl (by decide) ?_
  refine e_copy (pc' := 43) dX8_takePeople_40 rfl p_8_57 h_75 h_4 ⟨by omega, by omega, by omega, by omega, by omega, by decide, by decide⟩ (Nat.le_of_ble_eq_true rfl) ?_
  refine e_aload_n (pc' := 44) dX8_takePeople_43 rfl rfl ?_
  refine e_getR (pc' := 47) dX8_takePeople_44 rfl f_8_21 h_72 rfl ?_
  refine e_iconst (pc' := 48) dX8_takePeople_47 rfl ?_
  refine e_aload_n (pc' := 49) dX8_takePeople_48 rfl rfl ?_
  refine e_getR (pc' := 52) dX8_takePeople_49 rfl f_8_21 h_1 rfl ?_
  refine e_iconst (pc' := 53) dX8_takePeople_52 rfl ?_
  refine e_bipush (pc' := 55) (z := 15) dX8_takePeople_53 rfl (by decide) ?_
  refine e_copy (pc' := 58) dX8_takePeople_55 rfl p_8_57 h_76 h_5 ⟨by omega, by omega, by omega, by omega, by omega, by decide, by decide⟩ (Nat.le_of_ble_eq_true rfl) ?_
  refine e_aload_n (pc' := 59) dX8_takePeople_58 rfl rfl ?_
  refine e_aload_n (pc' := 60) dX8_takePeople_59 rfl rfl ?_
  refine e_getI (pc' := 63) (v := (σ.1 72 6)) dX8_takePeople_60 rfl f_8_33 h_72 rfl rfl ?_
  refine e_putI (pc' := 66) dX8_takePeople_63 rfl f_8_33 h_1 rfl rfl rfl ?_
  refine e_aload_n (pc' := 67) dX8_takePeople_66 rfl rfl ?_
  refine e_aload_n (pc' := 68) dX8_takePeople_67 rfl rfl ?_
  refine e_getI (pc' := 71) (v := (σ.1 72 7)) dX8_takePeople_68 rfl f_8_37 h_72 rfl rfl ?_
  refine e_putI (pc' := 74) dX8_takePeople_71 rfl f_8_37 h_1 rfl rfl rfl ?_
  refine e_aload_n (pc' := 75) dX8_takePeople_74 rfl rfl ?_
  refine e_aload_n (pc' := 76) dX8_takePeople_75 rfl rfl ?_
  refine e_getI (pc' := 79) (v := (σ.1 72 8)) dX8_takePeople_76 rfl f_8_40 h_72 rfl rfl ?_
  refine e_putI (pc' := 82) dX8_takePeople_79 rfl f_8_40 h_1 rfl rfl rfl ?_
  refine e_iconst (pc' := 83) dX8_takePeople_82 rfl ?_
  refine e_istore_n (pc' := 84) (L' := [some (rv 1), some (rv 72), some (iv 0)]) dX8_takePeople_83 rfl (by decide) rfl ?_
  refine e_iload_n (pc' := 85) dX8_takePeople_84 rfl rfl ?_
  refine e_bipush (pc' := 87) (z := 15) dX8_takePeople_85 rfl (by decide) ?_
  refine e_icmpI (pc' := 90) (t := 103) dX8_takePeople_87 (by decide) rfl ⟨by omega, by omega⟩ ⟨by omega, by omega⟩ (fun c2_1 => absurd (show 15 ≤ (0 : Int) from c2_1) (by decide)) (fun _ => ?_)
  refine e_aload_n (pc' := 91) dX8_takePeople_90 rfl rfl ?_
  refine e_getR (pc' := 94) dX8_takePeople_91 rfl f_8_24 h_1 rfl ?_
  refine e_iload_n (pc' := 95) dX8_takePeople_94 rfl rfl ?_
  refine e_iconst (pc' := 96) dX8_takePeople_95 rfl ?_
  refine e_iast (pc' := 97) dX8_takePeople_96 rfl h_6 (by decide) (by omega) (by omega) ?_
  refine e_iinc (pc' := 100) (L' := [some (rv 1), some (rv 72), some (iv 1)]) dX8_takePeople_97 rfl rfl (by decide) rfl ?_
  refine e_goto (pc' := 84) dX8_takePeople_100 (by decide) ?_
  refine e_iload_n (pc' := 85) dX8_takePeople_84 rfl rfl ?_
  refine e_bipush (pc' := 87) (z := 15) dX8_takePeople_85 rfl (by decide) ?_
  refine e_icmpI (pc' := 90) (t := 103) dX8_takePeople_87 (by decide) rfl ⟨by omega, by omega⟩ ⟨by omega, by omega⟩ (fun c2_2 => absurd (show 15 ≤ (1 : Int) from c2_2) (by decide)) (fun _ => ?_)
  refine e_aload_n (pc' := 91) dX8_takePeople_90 rfl rfl ?_
  refine e_getR (pc' := 94) dX8_takePeople_91 rfl f_8_24 h_1 rfl ?_
  refine e_iload_n (pc' := 95) dX8_takePeople_94 rfl rfl ?_
  refine e_iconst (pc' := 96) dX8_takePeople_95 rfl ?_
  refine e_iast (pc' := 97) dX8_takePeople_96 rfl h_6 (by decide) (by omega) (by omega) ?_
  refine e_iinc (pc' := 100) (L' := [some (rv 1), some (rv 72), some (iv 2)]) dX8_takePeople_97 rfl rfl (by decide) rfl ?_
  refine e_goto (pc' := 84) dX8_takePeople_100 (by decide) ?_
  refine e_iload_n (pc' := 85) dX8_takePeople_84 rfl rfl ?_
  refine e_bipush (pc' := 87) (z := 15) dX8_takePeople_85 rfl (by decide) ?_
  refine e_icmpI (pc' := 90) (t := 103) dX8_takePeople_87 (by decide) rfl ⟨by omega, by omega⟩ ⟨by omega, by omega⟩ (fun c2_3 => absurd (show 15 ≤ (2 : Int) from c2_3) (by decide)) (fun _ => ?_)
  refine e_aload_n (pc' := 91) dX8_takePeople_90 rfl rfl ?_
  refine e_getR (pc' := 94) dX8_takePeople_91 rfl f_8_24 h_1 rfl ?_
  refine e_iload_n (pc' := 95) dX8_takePeople_94 rfl rfl ?_
  refine e_iconst (pc' := 96) dX8_takePeople_95 rfl ?_
  refine e_iast (pc' := 97) dX8_takePeople_96 rfl h_6 (by decide) (by omega) (by omega) ?_
  refine e_iinc (pc' := 100) (L' := [some (rv 1), some (rv 72), some (iv 3)]) dX8_takePeople_97 rfl rfl (by decide) rfl ?_
  refine e_goto (pc' := 84) dX8_takePeople_100 (by decide) ?_
  refine e_iload_n (pc' := 85) dX8_takePeople_84 rfl rfl ?_
  refine e_bipush (pc' := 87) (z := 15) dX8_takePeople_85 rfl (by decide) ?_
  refine e_icmpI (pc' := 90) (t := 103) dX8_takePeople_87 (by decide) rfl ⟨by omega, by omega⟩ ⟨by omega, by omega⟩ (fun c2_4 => absurd (show 15 ≤ (3 : Int) from c2_4) (by decide)) (fun _ => ?_)
  refine e_aload_n (pc' := 91) dX8_takePeople_90 rfl rfl ?_
  refine e_getR (pc' := 94) dX8_takePeople_91 rfl f_8_24 h_1 rfl ?_
  refine e_iload_n (pc' := 95) dX8_takePeople_94 rfl rfl ?_
  refine e_iconst (pc' := 96) dX8_takePeople_95 rfl ?_
  refine e_iast (pc' := 97) dX8_takePeople_96 rfl h_6 (by decide) (by omega) (by omega) ?_
  refine e_iinc (pc' := 100) (L' := [some (rv 1), some (rv 72), some (iv 4)]) dX8_takePeople_97 rfl rfl (by decide) rfl ?_
  refine e_goto (pc' := 84) dX8_takePeople_100 (by decide) ?_
  refine e_iload_n (pc' := 85) dX8_takePeople_84 rfl rfl ?_
  refine e_bipush (pc' := 87) (z := 15) dX8_takePeople_85 rfl (by decide) ?_
  refine e_icmpI (pc' := 90) (t := 103) dX8_takePeople_87 (by decide) rfl ⟨by omega, by omega⟩ ⟨by omega, by omega⟩ (fun c2_5 => absurd (show 15 ≤ (4 : Int) from c2_5) (by decide)) (fun _ => ?_)
  refine e_aload_n (pc' := 91) dX8_takePeople_90 rfl rfl ?_
  refine e_getR (pc' := 94) dX8_takePeople_91 rfl f_8_24 h_1 rfl ?_
  refine e_iload_n (pc' := 95) dX8_takePeople_94 rfl rfl ?_
  refine e_iconst (pc' := 96) dX8_takePeople_95 rfl ?_
  refine e_iast (pc' := 97) dX8_takePeople_96 rfl h_6 (by decide) (by omega) (by omega) ?_
  refine e_iinc (pc' := 100) (L' := [some (rv 1), some (rv 72), some (iv 5)]) dX8_takePeople_97 rfl rfl (by decide) rfl ?_
  refine e_goto (pc' := 84) dX8_takePeople_100 (by decide) ?_
  refine e_iload_n (pc' := 85) dX8_takePeople_84 rfl rfl ?_
  refine e_bipush (pc' := 87) (z := 15) dX8_takePeople_85 rfl (by decide) ?_
  refine e_icmpI (pc' := 90) (t := 103) dX8_takePeople_87 (by decide) rfl ⟨by omega, by omega⟩ ⟨by omega, by omega⟩ (fun c2_6 => absurd (show 15 ≤ (5 : Int) from c2_6) (by decide)) (fun _ => ?_)
  refine e_aload_n (pc' := 91) dX8_takePeople_90 rfl rfl ?_
  refine e_getR (pc' := 94) dX8_takePeople_91 rfl f_8_24 h_1 rfl ?_
  refine e_iload_n (pc' := 95) dX8_takePeople_94 rfl rfl ?_
  refine e_iconst (pc' := 96) dX8_takePeople_95 rfl ?_
  refine e_iast (pc' := 97) dX8_takePeople_96 rfl h_6 (by decide) (by omega) (by omega) ?_
  refine e_iinc (pc' := 100) (L' := [some (rv 1), some (rv 72), some (iv 6)]) dX8_takePeople_97 rfl rfl (by decide) rfl ?_
  refine e_goto (pc' := 84) dX8_takePeople_100 (by decide) ?_
  refine e_iload_n (pc' := 85) dX8_takePeople_84 rfl rfl ?_
  refine e_bipush (pc' := 87) (z := 15) dX8_takePeople_85 rfl (by decide) ?_
  refine e_icmpI (pc' := 90) (t := 103) dX8_takePeople_87 (by decide) rfl ⟨by omega, by omega⟩ ⟨by omega, by omega⟩ (fun c2_7 => absurd (show 15 ≤ (6 : Int) from c2_7) (by decide)) (fun _ => ?_)
  refine e_aload_n (pc' := 91) dX8_takePeople_90 rfl rfl ?_
  refine e_getR (pc' := 94) dX8_takePeople_91 rfl f_8_24 h_1 rfl ?_
  refine e_iload_n (pc' := 95) dX8_takePeople_94 rfl rfl ?_
  refine e_iconst (pc' := 96) dX8_takePeople_95 rfl ?_
  refine e_iast (pc' := 97) dX8_takePeople_96 rfl h_6 (by decide) (by omega) (by omega) ?_
  refine e_iinc (pc' := 100) (L' := [some (rv 1), some (rv 72), some (iv 7)]) dX8_takePeople_97 rfl rfl (by decide) rfl ?_
  refine e_goto (pc' := 84) dX8_takePeople_100 (by decide) ?_
  refine e_iload_n (pc' := 85) dX8_takePeople_84 rfl rfl ?_
  refine e_bipush (pc' := 87) (z := 15) dX8_takePeople_85 rfl (by decide) ?_
  refine e_icmpI (pc' := 90) (t := 103) dX8_takePeople_87 (by decide) rfl ⟨by omega, by omega⟩ ⟨by omega, by omega⟩ (fun c2_8 => absurd (show 15 ≤ (7 : Int) from c2_8) (by decide)) (fun _ => ?_)
  refine e_aload_n (pc' := 91) dX8_takePeople_90 rfl rfl ?_
  refine e_getR (pc' := 94) dX8_takePeople_91 rfl f_8_24 h_1 rfl ?_
  refine e_iload_n (pc' := 95) dX8_takePeople_94 rfl rfl ?_
  refine e_iconst (pc' := 96) dX8_takePeople_95 rfl ?_
  refine e_iast (pc' := 97) dX8_takePeople_96 rfl h_6 (by decide) (by omega) (by omega) ?_
  refine e_iinc (pc' := 100) (L' := [some (rv 1), some (rv 72), some (iv 8)]) dX8_takePeople_97 rfl rfl (by decide) rfl ?_
  refine e_goto (pc' := 84) dX8_takePeople_100 (by decide) ?_
  refine e_iload_n (pc' := 85) dX8_takePeople_84 rfl rfl ?_
  refine e_bipush (pc' := 87) (z := 15) dX8_takePeople_85 rfl (by decide) ?_
  refine e_icmpI (pc' := 90) (t := 103) dX8_takePeople_87 (by decide) rfl ⟨by omega, by omega⟩ ⟨by omega, by omega⟩ (fun c2_9 => absurd (show 15 ≤ (8 : Int) from c2_9) (by decide)) (fun _ => ?_)
  refine e_aload_n (pc' := 91) dX8_takePeople_90 rfl rfl ?_
  refine e_getR (pc' := 94) dX8_takePeople_91 rfl f_8_24 h_1 rfl ?_
  refine e_iload_n (pc' := 95) dX8_takePeople_94 rfl rfl ?_
  refine e_iconst (pc' := 96) dX8_takePeople_95 rfl ?_
  refine e_iast (pc' := 97) dX8_takePeople_96 rfl h_6 (by decide) (by omega) (by omega) ?_
  refine e_iinc (pc' := 100) (L' := [some (rv 1), some (rv 72), some (iv 9)]) dX8_takePeople_97 rfl rfl (by decide) rfl ?_
  refine e_goto (pc' := 84) dX8_takePeople_100 (by decide) ?_
  refine e_iload_n (pc' := 85) dX8_takePeople_84 rfl rfl ?_
  refine e_bipush (pc' := 87) (z := 15) dX8_takePeople_85 rfl (by decide) ?_
  refine e_icmpI (pc' := 90) (t := 103) dX8_takePeople_87 (by decide) rfl ⟨by omega, by omega⟩ ⟨by omega, by omega⟩ (fun c2_10 => absurd (show 15 ≤ (9 : Int) from c2_10) (by decide)) (fun _ => ?_)
  refine e_aload_n (pc' := 91) dX8_takePeople_90 rfl rfl ?_
  refine e_getR (pc' := 94) dX8_takePeople_91 rfl f_8_24 h_1 rfl ?_
  refine e_iload_n (pc' := 95) dX8_takePeople_94 rfl rfl ?_
  refine e_iconst (pc' := 96) dX8_takePeople_95 rfl ?_
  refine e_iast (pc' := 97) dX8_takePeople_96 rfl h_6 (by decide) (by omega) (by omega) ?_
  refine e_iinc (pc' := 100) (L' := [some (rv 1), some (rv 72), some (iv 10)]) dX8_takePeople_97 rfl rfl (by decide) rfl ?_
  refine e_goto (pc' := 84) dX8_takePeople_100 (by decide) ?_
  refine e_iload_n (pc' := 85) dX8_takePeople_84 rfl rfl ?_
  refine e_bipush (pc' := 87) (z := 15) dX8_takePeople_85 rfl (by decide) ?_
  refine e_icmpI (pc' := 90) (t := 103) dX8_takePeople_87 (by decide) rfl ⟨by omega, by omega⟩ ⟨by omega, by omega⟩ (fun c2_11 => absurd (show 15 ≤ (10 : Int) from c2_11) (by decide)) (fun _ => ?_)
  refine e_aload_n (pc' := 91) dX8_takePeople_90 rfl rfl ?_
  refine e_getR (pc' := 94) dX8_takePeople_91 rfl f_8_24 h_1 rfl ?_
  refine e_iload_n (pc' := 95) dX8_takePeople_94 rfl rfl ?_
  refine e_iconst (pc' := 96) dX8_takePeople_95 rfl ?_
  refine e_iast (pc' := 97) dX8_takePeople_96 rfl h_6 (by decide) (by omega) (by omega) ?_
  refine e_iinc (pc' := 100) (L' := [some (rv 1), some (rv 72), some (iv 11)]) dX8_takePeople_97 rfl rfl (by decide) rfl ?_
  refine e_goto (pc' := 84) dX8_takePeople_100 (by decide) ?_
  refine e_iload_n (pc' := 85) dX8_takePeople_84 rfl rfl ?_
  refine e_bipush (pc' := 87) (z := 15) dX8_takePeople_85 rfl (by decide) ?_
  refine e_icmpI (pc' := 90) (t := 103) dX8_takePeople_87 (by decide) rfl ⟨by omega, by omega⟩ ⟨by omega, by omega⟩ (fun c2_12 => absurd (show 15 ≤ (11 : Int) from c2_12) (by decide)) (fun _ => ?_)
  refine e_aload_n (pc' := 91) dX8_takePeople_90 rfl rfl ?_
  refine e_getR (pc' := 94) dX8_takePeople_91 rfl f_8_24 h_1 rfl ?_
  refine e_iload_n (pc' := 95) dX8_takePeople_94 rfl rfl ?_
  refine e_iconst (pc' := 96) dX8_takePeople_95 rfl ?_
  refine e_iast (pc' := 97) dX8_takePeople_96 rfl h_6 (by decide) (by omega) (by omega) ?_
  refine e_iinc (pc' := 100) (L' := [some (rv 1), some (rv 72), some (iv 12)]) dX8_takePeople_97 rfl rfl (by decide) rfl ?_
  refine e_goto (pc' := 84) dX8_takePeople_100 (by decide) ?_
  refine e_iload_n (pc' := 85) dX8_takePeople_84 rfl rfl ?_
  refine e_bipush (pc' := 87) (z := 15) dX8_takePeople_85 rfl (by decide) ?_
  refine e_icmpI (pc' := 90) (t := 103) dX8_takePeople_87 (by decide) rfl ⟨by omega, by omega⟩ ⟨by omega, by omega⟩ (fun c2_13 => absurd (show 15 ≤ (12 : Int) from c2_13) (by decide)) (fun _ => ?_)
  refine e_aload_n (pc' := 91) dX8_takePeople_90 rfl rfl ?_
  refine e_getR (pc' := 94) dX8_takePeople_91 rfl f_8_24 h_1 rfl ?_
  refine e_iload_n (pc' := 95) dX8_takePeople_94 rfl rfl ?_
  refine e_iconst (pc' := 96) dX8_takePeople_95 rfl ?_
  refine e_iast (pc' := 97) dX8_takePeople_96 rfl h_6 (by decide) (by omega) (by omega) ?_
  refine e_iinc (pc' := 100) (L' := [some (rv 1), some (rv 72), some (iv 13)]) dX8_takePeople_97 rfl rfl (by decide) rfl ?_
  refine e_goto (pc' := 84) dX8_takePeople_100 (by decide) ?_
  refine e_iload_n (pc' := 85) dX8_takePeople_84 rfl rfl ?_
  refine e_bipush (pc' := 87) (z := 15) dX8_takePeople_85 rfl (by decide) ?_
  refine e_icmpI (pc' := 90) (t := 103) dX8_takePeople_87 (by decide) rfl ⟨by omega, by omega⟩ ⟨by omega, by omega⟩ (fun c2_14 => absurd (show 15 ≤ (13 : Int) from c2_14) (by decide)) (fun _ => ?_)
  refine e_aload_n (pc' := 91) dX8_takePeople_90 rfl rfl ?_
  refine e_getR (pc' := 94) dX8_takePeople_91 rfl f_8_24 h_1 rfl ?_
  refine e_iload_n (pc' := 95) dX8_takePeople_94 rfl rfl ?_
  refine e_iconst (pc' := 96) dX8_takePeople_95 rfl ?_
  refine e_iast (pc' := 97) dX8_takePeople_96 rfl h_6 (by decide) (by omega) (by omega) ?_
  refine e_iinc (pc' := 100) (L' := [some (rv 1), some (rv 72), some (iv 14)]) dX8_takePeople_97 rfl rfl (by decide) rfl ?_
  refine e_goto (pc' := 84) dX8_takePeople_100 (by decide) ?_
  refine e_iload_n (pc' := 85) dX8_takePeople_84 rfl rfl ?_
  refine e_bipush (pc' := 87) (z := 15) dX8_takePeople_85 rfl (by decide) ?_
  refine e_icmpI (pc' := 90) (t := 103) dX8_takePeople_87 (by decide) rfl ⟨by omega, by omega⟩ ⟨by omega, by omega⟩ (fun c2_15 => absurd (show 15 ≤ (14 : Int) from c2_15) (by decide)) (fun _ => ?_)
  refine e_aload_n (pc' := 91) dX8_takePeople_90 rfl rfl ?_
  refine e_getR (pc' := 94) dX8_takePeople_91 rfl f_8_24 h_1 rfl ?_
  refine e_iload_n (pc' := 95) dX8_takePeople_94 rfl rfl ?_
  refine e_iconst (pc' := 96) dX8_takePeople_95 rfl ?_
  refine e_iast (pc' := 97) dX8_takePeople_96 rfl h_6 (by decide) (by omega) (by omega) ?_
  refine e_iinc (pc' := 100) (L' := [some (rv 1), some (rv 72), some (iv 15)]) dX8_takePeople_97 rfl rfl (by decide) rfl ?_
  refine e_goto (pc' := 84) dX8_takePeople_100 (by decide) ?_
  refine e_iload_n (pc' := 85) dX8_takePeople_84 rfl rfl ?_
  refine e_bipush (pc' := 87) (z := 15) dX8_takePeople_85 rfl (by decide) ?_
  refine e_icmpI (pc' := 90) (t := 103) dX8_takePeople_87 (by decide) rfl ⟨by omega, by omega⟩ ⟨by omega, by omega⟩ (fun _ => ?_) (fun c2_16 => absurd (show 15 ≤ (15 : Int) by decide) c2_16)
  exact e_vret dX8_takePeople_103 rfl ⟨rfl, Nat.le_refl _⟩ ⟨rfl, ⟨⟨rfl, rfl, rfl⟩, ⟨rfl, rfl, rfl⟩, fun j a b => cpy0 a b, fun j a b => cpy0 a b, fun j a b => ⟨cpy0 a b, cpy0 a b⟩, zero15 rfl rfl rfl rfl rfl rfl rfl rfl rfl rfl rfl rfl rfl rfl rfl⟩, (by repeat (first | exact Fr.rf | (refine fr_I ?_ (by decide)) | (refine fr_J ?_ (by decide)) | (refine fr_C ?_ (by decide))))⟩

set_option maxHeartbeats 4000000 in
set_option maxRecDepth 100000 in
theorem s_rtake_8_79 {X : AX} {d : Nat} {σ : SG} : Ev X 0 0 (d + 1) mX7_take 0 [some (rv 8), some (rv 79)] [] σ (QV (fun σ' => RlEq σ' 8 σ 79 ∧ Fr [8, 9, 10] σ σ')) := by
  refine e_aload_n (pc' := 1) dX7_take_0 rfl rfl ?_
  refine e_getR (pc' := 4) dX7_take_1 rfl f_7_9 h_79 rfl ?_
  refine e_iconst (pc' := 5) dX7_take_4 rfl ?_
  refine e_aload_n (pc' := 6) dX7_take_5 rfl rfl ?_
  refine e_getR (pc' := 9) dX7_take_6 rfl f_7_9 h_8 rfl ?_
  refine e_iconst (pc' := 10) dX7_take_9 rfl ?_
  refine e_bipush (pc' := 12) (z := 40) dX7_take_10 rfl (by decide) ?_
  refine e_copy (pc' := 15) dX7_take_12 rfl p_7_28 h_80 h_9 ⟨by omega, by omega, by omega, by omega, by omega, by decide, by decide⟩ (Nat.le_of_ble_eq_true rfl) ?_
  refine e_aload_n (pc' := 16) dX7_take_15 rfl rfl ?_
  refine e_getR (pc' := 19) dX7_take_16 rfl f_7_15 h_79 rfl ?_
  refine e_iconst (pc' := 20) dX7_take_19 rfl ?_
  refine e_aload_n (pc' := 21) dX7_take_20 rfl rfl ?_
  refine e_getR (pc' := 24) dX7_take_21 rfl f_7_15 h_8 rfl ?_
  refine e_iconst (pc' := 25) dX7_take_24 rfl ?_
  refine e_bipush (pc' := 27) (z := 40) dX7_take_25 rfl (by decide) ?_
  refine e_copy (pc' := 30) dX7_take_27 rfl p_7_28 h_81 h_10 ⟨by omega, by omega, by omega, by omega, by omega, by decide, by decide⟩ (Nat.le_of_ble_eq_true rfl) ?_
  refine e_aload_n (pc' := 31) dX7_take_30 rfl rfl ?_
  refine e_aload_n (pc' := 32) dX7_take_31 rfl rfl ?_
  refine e_getI (pc' := 35) (v := (σ.1 79 2)) dX7_take_32 rfl f_7_18 h_79 rfl rfl ?_
  refine e_putI (pc' := 38) dX7_take_35 rfl f_7_18 h_8 rfl rfl rfl ?_
  refine e_aload_n (pc' := 39) dX7_take_38 rfl rfl ?_
  refine e_aload_n (pc' := 40) dX7_take_39 rfl rfl ?_
  refine e_getI (pc' := 43) (v := (σ.1 79 3)) dX7_take_40 rfl f_7_22 h_79 rfl rfl ?_
  refine e_putI (pc' := 46) dX7_take_43 rfl f_7_22 h_8 rfl rfl rfl ?_
  refine e_aload_n (pc' := 47) dX7_take_46 rfl rfl ?_
  refine e_aload_n (pc' := 48) dX7_take_47 rfl rfl ?_
  refine e_getI (pc' := 51) (v := (σ.1 79 4)) dX7_take_48 rfl f_7_25 h_79 rfl rfl ?_
  refine e_putI (pc' := 54) dX7_take_51 rfl f_7_25 h_8 rfl rfl rfl ?_
  exact e_vret dX7_take_54 rfl ⟨rfl, Nat.le_refl _⟩ ⟨rfl, ⟨⟨rfl, rfl, rfl⟩, fun j a b => ⟨cpy0 a b, cpy0 a b⟩⟩, (by repeat (first | exact Fr.rf | (refine fr_I ?_ (by decide)) | (refine fr_J ?_ (by decide)) | (refine fr_C ?_ (by decide))))⟩

set_option maxHeartbeats 4000000 in
set_option maxRecDepth 100000 in
theorem s_rtake_11_82 {X : AX} {d : Nat} {σ : SG} : Ev X 0 0 (d + 1) mX7_take 0 [some (rv 11), some (rv 82)] [] σ (QV (fun σ' => RlEq σ' 11 σ 82 ∧ Fr [11, 12, 13] σ σ')) := by
  refine e_aload_n (pc' := 1) dX7_take_0 rfl rfl ?_
  refine e_getR (pc' := 4) dX7_take_1 rfl f_7_9 h_82 rfl ?_
  refine e_iconst (pc' := 5) dX7_take_4 rfl ?_
  refine e_aload_n (pc' := 6) dX7_take_5 rfl rfl ?_
  refine e_getR (pc' := 9) dX7_take_6 rfl f_7_9 h_11 rfl ?_
  refine e_iconst (pc' := 10) dX7_take_9 rfl ?_
  refine e_bipush (pc' := 12) (z := 40) dX7_take_10 rfl (by decide) ?_
  refine e_copy (pc' := 15) dX7_take_12 rfl p_7_28 h_83 h_12 ⟨by omega, by omega, by omega, by omega, by omega, by decide, by decide⟩ (Nat.le_of_ble_eq_true rfl) ?_
  refine e_aload_n (pc' := 16) dX7_take_15 rfl rfl ?_
  refine e_getR (pc' := 19) dX7_take_16 rfl f_7_15 h_82 rfl ?_
  refine e_iconst (pc' := 20) dX7_take_19 rfl ?_
  refine e_aload_n (pc' := 21) dX7_take_20 rfl rfl ?_
  refine e_getR (pc' := 24) dX7_take_21 rfl f_7_15 h_11 rfl ?_
  refine e_iconst (pc' := 25) dX7_take_24 rfl ?_
  refine e_bipush (pc' := 27) (z := 40) dX7_take_25 rfl (by decide) ?_
  refine e_copy (pc' := 30) dX7_take_27 rfl p_7_28 h_84 h_13 ⟨by omega, by omega, by omega, by omega, by omega, by decide, by decide⟩ (Nat.le_of_ble_eq_true rfl) ?_
  refine e_aload_n (pc' := 31) dX7_take_30 rfl rfl ?_
  refine e_aload_n (pc' := 32) dX7_take_31 rfl rfl ?_
  refine e_getI (pc' := 35) (v := (σ.1 82 2)) dX7_take_32 rfl f_7_18 h_82 rfl rfl ?_
  refine e_putI (pc' := 38) dX7_take_35 rfl f_7_18 h_11 rfl rfl rfl ?_
  refine e_aload_n (pc' := 39) dX7_take_38 rfl rfl ?_
  refine e_aload_n (pc' := 40) dX7_take_39 rfl rfl ?_
  refine e_getI (pc' := 43) (v := (σ.1 82 3)) dX7_take_40 rfl f_7_22 h_82 rfl rfl ?_
  refine e_putI (pc' := 46) dX7_take_43 rfl f_7_22 h_11 rfl rfl rfl ?_
  refine e_aload_n (pc' := 47) dX7_take_46 rfl rfl ?_
  refine e_aload_n (pc' := 48) dX7_take_47 rfl rfl ?_
  refine e_getI (pc' := 51) (v := (σ.1 82 4)) dX7_take_48 rfl f_7_25 h_82 rfl rfl ?_
  refine e_putI (pc' := 54) dX7_take_51 rfl f_7_25 h_11 rfl rfl rfl ?_
  exact e_vret dX7_take_54 rfl ⟨rfl, Nat.le_refl _⟩ ⟨rfl, ⟨⟨rfl, rfl, rfl⟩, fun j a b => ⟨cpy0 a b, cpy0 a b⟩⟩, (by repeat (first | exact Fr.rf | (refine fr_I ?_ (by decide)) | (refine fr_J ?_ (by decide)) | (refine fr_C ?_ (by decide))))⟩

set_option maxHeartbeats 4000000 in
set_option maxRecDepth 100000 in
theorem s_rtake_14_85 {X : AX} {d : Nat} {σ : SG} : Ev X 0 0 (d + 1) mX7_take 0 [some (rv 14), some (rv 85)] [] σ (QV (fun σ' => RlEq σ' 14 σ 85 ∧ Fr [14, 15, 16] σ σ')) := by
  refine e_aload_n (pc' := 1) dX7_take_0 rfl rfl ?_
  refine e_getR (pc' := 4) dX7_take_1 rfl f_7_9 h_85 rfl ?_
  refine e_iconst (pc' := 5) dX7_take_4 rfl ?_
  refine e_aload_n (pc' := 6) dX7_take_5 rfl rfl ?_
  refine e_getR (pc' := 9) dX7_take_6 rfl f_7_9 h_14 rfl ?_
  refine e_iconst (pc' := 10) dX7_take_9 rfl ?_
  refine e_bipush (pc' := 12) (z := 40) dX7_take_10 rfl (by decide) ?_
  refine e_copy (pc' := 15) dX7_take_12 rfl p_7_28 h_86 h_15 ⟨by omega, by omega, by omega, by omega, by omega, by decide, by decide⟩ (Nat.le_of_ble_eq_true rfl) ?_
  refine e_aload_n (pc' := 16) dX7_take_15 rfl rfl ?_
  refine e_getR (pc' := 19) dX7_take_16 rfl f_7_15 h_85 rfl ?_
  refine e_iconst (pc' := 20) dX7_take_19 rfl ?_
  refine e_aload_n (pc' := 21) dX7_take_20 rfl rfl ?_
  refine e_getR (pc' := 24) dX7_take_21 rfl f_7_15 h_14 rfl ?_
  refine e_iconst (pc' := 25) dX7_take_24 rfl ?_
  refine e_bipush (pc' := 27) (z := 40) dX7_take_25 rfl (by decide) ?_
  refine e_copy (pc' := 30) dX7_take_27 rfl p_7_28 h_87 h_16 ⟨by omega, by omega, by omega, by omega, by omega, by decide, by decide⟩ (Nat.le_of_ble_eq_true rfl) ?_
  refine e_aload_n (pc' := 31) dX7_take_30 rfl rfl ?_
  refine e_aload_n (pc' := 32) dX7_take_31 rfl rfl ?_
  refine e_getI (pc' := 35) (v := (σ.1 85 2)) dX7_take_32 rfl f_7_18 h_85 rfl rfl ?_
  refine e_putI (pc' := 38) dX7_take_35 rfl f_7_18 h_14 rfl rfl rfl ?_
  refine e_aload_n (pc' := 39) dX7_take_38 rfl rfl ?_
  refine e_aload_n (pc' := 40) dX7_take_39 rfl rfl ?_
  refine e_getI (pc' := 43) (v := (σ.1 85 3)) dX7_take_40 rfl f_7_22 h_85 rfl rfl ?_
  refine e_putI (pc' := 46) dX7_take_43 rfl f_7_22 h_14 rfl rfl rfl ?_
  refine e_aload_n (pc' := 47) dX7_take_46 rfl rfl ?_
  refine e_aload_n (pc' := 48) dX7_take_47 rfl rfl ?_
  refine e_getI (pc' := 51) (v := (σ.1 85 4)) dX7_take_48 rfl f_7_25 h_85 rfl rfl ?_
  refine e_putI (pc' := 54) dX7_take_51 rfl f_7_25 h_14 rfl rfl rfl ?_
  exact e_vret dX7_take_54 rfl ⟨rfl, Nat.le_refl _⟩ ⟨rfl, ⟨⟨rfl, rfl, rfl⟩, fun j a b => ⟨cpy0 a b, cpy0 a b⟩⟩, (by repeat (first | exact Fr.rf | (refine fr_I ?_ (by decide)) | (refine fr_J ?_ (by decide)) | (refine fr_C ?_ (by decide))))⟩

set_option maxHeartbeats 4000000 in
set_option maxRecDepth 100000 in
theorem s_take_1_72 {X : AX} {d : Nat} {σ : SG} : Ev X 0 0 (d + 2) mX8_take 0 [some (rv 1), some (rv 72), none] [] σ (QV (fun σ' => SnEq σ' 1 σ 72 ∧ Fr [1, 2, 3, 4, 5, 6, 8, 9, 10, 11, 12, 13, 14, 15, 16] σ σ')) := by
  refine e_aload_n (pc' := 1) dX8_take_0 rfl rfl ?_
  refine e_aload_n (pc' := 2) dX8_take_1 rfl rfl ?_
  refine e_cv1v (pc' := 5) dX8_take_2 rfl k_8_53 h_1 rfl (Nat.le_of_ble_eq_true rfl) rfl rfl ⟨rfl, rfl⟩ ⟨Nat.zero_le _, Nat.zero_le _⟩ s_takePeople_1_72 ?_
  rintro τ1 ⟨hP1, hG1⟩
  refine e_aload_n (pc' := 6) dX8_take_5 rfl rfl ?_
  refine e_getR (pc' := 9) dX8_take_6 rfl f_8_24 h_72 rfl ?_
  refine e_iconst (pc' := 10) dX8_take_9 rfl ?_
  refine e_aload_n (pc' := 11) dX8_take_10 rfl rfl ?_
  refine e_getR (pc' := 14) dX8_take_11 rfl f_8_24 h_1 rfl ?_
  refine e_iconst (pc' := 15) dX8_take_14 rfl ?_
  refine e_bipush (pc' := 17) (z := 15) dX8_take_15 rfl (by decide) ?_
  refine e_copy (pc' := 20) dX8_take_17 rfl p_8_57 h_77 h_6 ⟨by omega, by omega, by omega, by omega, by omega, by decide, by decide⟩ (Nat.le_of_ble_eq_true rfl) ?_
  refine e_iconst (pc' := 21) dX8_take_20 rfl ?_
  refine e_istore_n (pc' := 22) (L' := [some (rv 1), some (rv 72), some (iv 0)]) dX8_take_21 rfl (by decide) rfl ?_
  refine e_iload_n (pc' := 23) dX8_take_22 rfl rfl ?_
  refine e_iconst (pc' := 24) dX8_take_23 rfl ?_
  refine e_icmpI (pc' := 27) (t := 48) dX8_take_24 (by decide) rfl ⟨by omega, by omega⟩ ⟨by omega, by omega⟩ (fun c2_1 => absurd (show 3 ≤ (0 : Int) from c2_1) (by decide)) (fun _ => ?_)
  refine e_aload_n (pc' := 28) dX8_take_27 rfl rfl ?_
  refine e_getR (pc' := 31) dX8_take_28 rfl f_8_29 h_1 rfl ?_
  refine e_iload_n (pc' := 32) dX8_take_31 rfl rfl ?_
  refine e_aald (pc' := 33) (k := 8) dX8_take_32 rfl h_7 (by decide) (by decide) (by omega) (by omega) rfl ?_
  refine e_aload_n (pc' := 34) dX8_take_33 rfl rfl ?_
  refine e_getR (pc' := 37) dX8_take_34 rfl f_8_29 h_72 rfl ?_
  refine e_iload_n (pc' := 38) dX8_take_37 rfl rfl ?_
  refine e_aald (pc' := 39) (k := 79) dX8_take_38 rfl h_78 (by decide) (by decide) (by omega) (by omega) rfl ?_
  refine e_cv1v (pc' := 42) dX8_take_39 rfl k_8_63 h_8 rfl (Nat.le_of_ble_eq_true rfl) rfl rfl ⟨rfl, rfl⟩ ⟨Nat.zero_le _, Nat.zero_le _⟩ s_rtake_8_79 ?_
  rintro τ2 ⟨hP2, hG2⟩
  refine e_iinc (pc' := 45) (L' := [some (rv 1), some (rv 72), some (iv 1)]) dX8_take_42 rfl rfl (by decide) rfl ?_
  refine e_goto (pc' := 22) dX8_take_45 (by decide) ?_
  refine e_iload_n (pc' := 23) dX8_take_22 rfl rfl ?_
  refine e_iconst (pc' := 24) dX8_take_23 rfl ?_
  refine e_icmpI (pc' := 27) (t := 48) dX8_take_24 (by decide) rfl ⟨by omega, by omega⟩ ⟨by omega, by omega⟩ (fun c2_2 => absurd (show 3 ≤ (1 : Int) from c2_2) (by decide)) (fun _ => ?_)
  refine e_aload_n (pc' := 28) dX8_take_27 rfl rfl ?_
  refine e_getR (pc' := 31) dX8_take_28 rfl f_8_29 h_1 rfl ?_
  refine e_iload_n (pc' := 32) dX8_take_31 rfl rfl ?_
  refine e_aald (pc' := 33) (k := 11) dX8_take_32 rfl h_7 (by decide) (by decide) (by omega) (by omega) rfl ?_
  refine e_aload_n (pc' := 34) dX8_take_33 rfl rfl ?_
  refine e_getR (pc' := 37) dX8_take_34 rfl f_8_29 h_72 rfl ?_
  refine e_iload_n (pc' := 38) dX8_take_37 rfl rfl ?_
  refine e_aald (pc' := 39) (k := 82) dX8_take_38 rfl h_78 (by decide) (by decide) (by omega) (by omega) rfl ?_
  refine e_cv1v (pc' := 42) dX8_take_39 rfl k_8_63 h_11 rfl (Nat.le_of_ble_eq_true rfl) rfl rfl ⟨rfl, rfl⟩ ⟨Nat.zero_le _, Nat.zero_le _⟩ s_rtake_11_82 ?_
  rintro τ3 ⟨hP3, hG3⟩
  refine e_iinc (pc' := 45) (L' := [some (rv 1), some (rv 72), some (iv 2)]) dX8_take_42 rfl rfl (by decide) rfl ?_
  refine e_goto (pc' := 22) dX8_take_45 (by decide) ?_
  refine e_iload_n (pc' := 23) dX8_take_22 rfl rfl ?_
  refine e_iconst (pc' := 24) dX8_take_23 rfl ?_
  refine e_icmpI (pc' := 27) (t := 48) dX8_take_24 (by decide) rfl ⟨by omega, by omega⟩ ⟨by omega, by omega⟩ (fun c2_3 => absurd (show 3 ≤ (2 : Int) from c2_3) (by decide)) (fun _ => ?_)
  refine e_aload_n (pc' := 28) dX8_take_27 rfl rfl ?_
  refine e_getR (pc' := 31) dX8_take_28 rfl f_8_29 h_1 rfl ?_
  refine e_iload_n (pc' := 32) dX8_take_31 rfl rfl ?_
  refine e_aald (pc' := 33) (k := 14) dX8_take_32 rfl h_7 (by decide) (by decide) (by omega) (by omega) rfl ?_
  refine e_aload_n (pc' := 34) dX8_take_33 rfl rfl ?_
  refine e_getR (pc' := 37) dX8_take_34 rfl f_8_29 h_72 rfl ?_
  refine e_iload_n (pc' := 38) dX8_take_37 rfl rfl ?_
  refine e_aald (pc' := 39) (k := 85) dX8_take_38 rfl h_78 (by decide) (by decide) (by omega) (by omega) rfl ?_
  refine e_cv1v (pc' := 42) dX8_take_39 rfl k_8_63 h_14 rfl (Nat.le_of_ble_eq_true rfl) rfl rfl ⟨rfl, rfl⟩ ⟨Nat.zero_le _, Nat.zero_le _⟩ s_rtake_14_85 ?_
  rintro τ4 ⟨hP4, hG4⟩
  refine e_iinc (pc' := 45) (L' := [some (rv 1), some (rv 72), some (iv 3)]) dX8_take_42 rfl rfl (by decide) rfl ?_
  refine e_goto (pc' := 22) dX8_take_45 (by decide) ?_
  refine e_iload_n (pc' := 23) dX8_take_22 rfl rfl ?_
  refine e_iconst (pc' := 24) dX8_take_23 rfl ?_
  refine e_icmpI (pc' := 27) (t := 48) dX8_take_24 (by decide) rfl ⟨by omega, by omega⟩ ⟨by omega, by omega⟩ (fun _ => ?_) (fun c2_4 => absurd (show 3 ≤ (3 : Int) by decide) c2_4)
  refine e_aload_n (pc' := 49) dX8_take_48 rfl rfl ?_
  refine e_aload_n (pc' := 50) dX8_take_49 rfl rfl ?_
  refine e_getI (pc' := 53) (v := (σ.1 72 9)) dX8_take_50 rfl f_8_43 h_72 rfl ((congrFun (hG4 72 (by decide)).1 9).trans ((congrFun (hG3 72 (by decide)).1 9).trans ((congrFun (hG2 72 (by decide)).1 9).trans ((congrFun (hG1 72 (by decide)).1 9).trans rfl)))) ?_
  refine e_putI (pc' := 56) dX8_take_53 rfl f_8_43 h_1 rfl rfl rfl ?_
  refine e_aload_n (pc' := 57) dX8_take_56 rfl rfl ?_
  refine e_aload_n (pc' := 58) dX8_take_57 rfl rfl ?_
  refine e_getI (pc' := 61) (v := (σ.1 72 10)) dX8_take_58 rfl f_8_46 h_72 rfl ((congrFun (hG4 72 (by decide)).1 10).trans ((congrFun (hG3 72 (by decide)).1 10).trans ((congrFun (hG2 72 (by decide)).1 10).trans ((congrFun (hG1 72 (by decide)).1 10).trans rfl)))) ?_
  refine e_putI (pc' := 64) dX8_take_61 rfl f_8_46 h_1 rfl rfl rfl ?_
  refine e_aload_n (pc' := 65) dX8_take_64 rfl rfl ?_
  refine e_aload_n (pc' := 66) dX8_take_65 rfl rfl ?_
  refine e_getI (pc' := 69) (v := (σ.1 72 11)) dX8_take_66 rfl f_8_49 h_72 rfl ((congrFun (hG4 72 (by decide)).1 11).trans ((congrFun (hG3 72 (by decide)).1 11).trans ((congrFun (hG2 72 (by decide)).1 11).trans ((congrFun (hG1 72 (by decide)).1 11).trans rfl)))) ?_
  refine e_putI (pc' := 72) dX8_take_69 rfl f_8_49 h_1 rfl rfl rfl ?_
  exact e_vret dX8_take_72 rfl ⟨rfl, Nat.le_refl _⟩ (by
        have q1 : τ4.1 1 = ((upC τ1 6 (cpyA (τ1.1 77) (τ1.1 6) 0 0 15))).1 1 := (hG4 1 (by decide)).1.trans ((hG3 1 (by decide)).1.trans (hG2 1 (by decide)).1)
        have q2 : τ4.1 2 = ((upC τ1 6 (cpyA (τ1.1 77) (τ1.1 6) 0 0 15))).1 2 := (hG4 2 (by decide)).1.trans ((hG3 2 (by decide)).1.trans (hG2 2 (by decide)).1)
        have q3 : τ4.1 3 = ((upC τ1 6 (cpyA (τ1.1 77) (τ1.1 6) 0 0 15))).1 3 := (hG4 3 (by decide)).1.trans ((hG3 3 (by decide)).1.trans (hG2 3 (by decide)).1)
        have q4 : τ4.1 4 = ((upC τ1 6 (cpyA (τ1.1 77) (τ1.1 6) 0 0 15))).1 4 := (hG4 4 (by decide)).1.trans ((hG3 4 (by decide)).1.trans (hG2 4 (by decide)).1)
        have q5 : τ4.1 5 = ((upC τ1 6 (cpyA (τ1.1 77) (τ1.1 6) 0 0 15))).1 5 := (hG4 5 (by decide)).1.trans ((hG3 5 (by decide)).1.trans (hG2 5 (by decide)).1)
        have q6 : τ4.1 6 = ((upC τ1 6 (cpyA (τ1.1 77) (τ1.1 6) 0 0 15))).1 6 := (hG4 6 (by decide)).1.trans ((hG3 6 (by decide)).1.trans (hG2 6 (by decide)).1)
        have c5 : τ1.1 77 = σ.1 77 := (hG1 77 (by decide)).1
        have a00 : τ4.1 8 = τ2.1 8 := (hG4 8 (by decide)).1.trans (hG3 8 (by decide)).1
        have b00 : ((upC τ1 6 (cpyA (τ1.1 77) (τ1.1 6) 0 0 15))).1 79 = σ.1 79 := (show ((upC τ1 6 (cpyA (τ1.1 77) (τ1.1 6) 0 0 15))).1 79 = σ.1 79 from (hG1 79 (by decide)).1)
        have a01 : τ4.1 9 = τ2.1 9 := (hG4 9 (by decide)).1.trans (hG3 9 (by decide)).1
        have b01 : ((upC τ1 6 (cpyA (τ1.1 77) (τ1.1 6) 0 0 15))).1 80 = σ.1 80 := (show ((upC τ1 6 (cpyA (τ1.1 77) (τ1.1 6) 0 0 15))).1 80 = σ.1 80 from (hG1 80 (by decide)).1)
        have a02 : τ4.1 10 = τ2.1 10 := (hG4 10 (by decide)).1.trans (hG3 10 (by decide)).1
        have b02 : ((upC τ1 6 (cpyA (τ1.1 77) (τ1.1 6) 0 0 15))).1 81 = σ.1 81 := (show ((upC τ1 6 (cpyA (τ1.1 77) (τ1.1 6) 0 0 15))).1 81 = σ.1 81 from (hG1 81 (by decide)).1)
        have a10 : τ4.1 11 = τ3.1 11 := (hG4 11 (by decide)).1
        have b10 : (τ2).1 82 = σ.1 82 := (hG2 82 (by decide)).1.trans (show ((upC τ1 6 (cpyA (τ1.1 77) (τ1.1 6) 0 0 15))).1 82 = σ.1 82 from (hG1 82 (by decide)).1)
        have a11 : τ4.1 12 = τ3.1 12 := (hG4 12 (by decide)).1
        have b11 : (τ2).1 83 = σ.1 83 := (hG2 83 (by decide)).1.trans (show ((upC τ1 6 (cpyA (τ1.1 77) (τ1.1 6) 0 0 15))).1 83 = σ.1 83 from (hG1 83 (by decide)).1)
        have a12 : τ4.1 13 = τ3.1 13 := (hG4 13 (by decide)).1
        have b12 : (τ2).1 84 = σ.1 84 := (hG2 84 (by decide)).1.trans (show ((upC τ1 6 (cpyA (τ1.1 77) (τ1.1 6) 0 0 15))).1 84 = σ.1 84 from (hG1 84 (by decide)).1)
        have a20 : τ4.1 14 = τ4.1 14 := rfl
        have b20 : (τ3).1 85 = σ.1 85 := (hG3 85 (by decide)).1.trans ((hG2 85 (by decide)).1.trans (show ((upC τ1 6 (cpyA (τ1.1 77) (τ1.1 6) 0 0 15))).1 85 = σ.1 85 from (hG1 85 (by decide)).1))
        have a21 : τ4.1 15 = τ4.1 15 := rfl
        have b21 : (τ3).1 86 = σ.1 86 := (hG3 86 (by decide)).1.trans ((hG2 86 (by decide)).1.trans (show ((upC τ1 6 (cpyA (τ1.1 77) (τ1.1 6) 0 0 15))).1 86 = σ.1 86 from (hG1 86 (by decide)).1))
        have a22 : τ4.1 16 = τ4.1 16 := rfl
        have b22 : (τ3).1 87 = σ.1 87 := (hG3 87 (by decide)).1.trans ((hG2 87 (by decide)).1.trans (show ((upC τ1 6 (cpyA (τ1.1 77) (τ1.1 6) 0 0 15))).1 87 = σ.1 87 from (hG1 87 (by decide)).1))
        have hF4 : Fr [1, 2, 3, 4, 5, 6, 8, 9, 10, 11, 12, 13, 14, 15, 16] σ τ4 := (fr_C (hG1.mono (by decide)) (by decide)).tr ((hG2.mono (by decide)).tr ((hG3.mono (by decide)).tr (hG4.mono (by decide))))
        refine ⟨rfl, ⟨⟨(congrFun q1 6).trans hP1.1.1, (congrFun q1 7).trans hP1.1.2.1, (congrFun q1 8).trans hP1.1.2.2⟩, ⟨rfl, rfl, rfl⟩, fun j a b => (congrFun q2 j).trans (hP1.2.2.1 j a b), fun j a b => (congrFun q3 j).trans (hP1.2.2.2.1 j a b), fun j a b => ⟨(congrFun q4 j).trans (hP1.2.2.2.2.1 j a b).1, (congrFun q5 j).trans (hP1.2.2.2.2.1 j a b).2⟩, fun j a b => (congrFun q6 j).trans ((cpy0 a b).trans (congrFun c5 j)), ?_, ?_, ?_⟩, fr_I (fr_I (fr_I hF4 (by decide)) (by decide)) (by decide)⟩
        · exact hP2.cg a00 a01 a02 b00 b01 b02
        · exact hP3.cg a10 a11 a12 b10 b11 b12
        · exact hP4.cg a20 a21 a22 b20 b21 b22)

set_option maxHeartbeats 4000000 in
set_option maxRecDepth 100000 in
theorem l_image_0 {X : AX} {d : Nat} {σ : SG} : Ev X 0 0 (d + 3) mX10_image 11 [some (rv 0), some (iv 0)] [] σ (QI (fun r σ' => r = 1 ∧ SnEq σ' 56 σ 1 ∧ σ'.1 34 = (upI σ 34 0 1).1 34 ∧ Fr [56, 57, 58, 59, 60, 61, 63, 64, 65, 66, 67, 68, 69, 70, 71, 34] σ σ')) := by
  refine e_aload_n (pc' := 12) dX10_image_11 rfl rfl ?_
  refine e_getR (pc' := 15) dX10_image_12 rfl f_10_19 h_0 rfl ?_
  refine e_iload_n (pc' := 16) dX10_image_15 rfl rfl ?_
  refine e_aald (pc' := 17) (k := 56) dX10_image_16 rfl h_33 (by decide) (by decide) (by omega) (by omega) rfl ?_
  refine e_aload_n (pc' := 18) dX10_image_17 rfl rfl ?_
  refine e_getR (pc' := 21) dX10_image_18 rfl f_10_10 h_0 rfl ?_
  refine e_cv1v (pc' := 24) dX10_image_21 rfl k_10_233 h_56 rfl (Nat.le_of_ble_eq_true rfl) rfl rfl ⟨rfl, rfl⟩ ⟨Nat.zero_le _, Nat.zero_le _⟩ s_take_56_1 ?_
  rintro τ1 ⟨hP1, hG1⟩
  refine e_aload_n (pc' := 25) dX10_image_24 rfl rfl ?_
  refine e_getR (pc' := 28) dX10_image_25 rfl f_10_23 h_0 rfl ?_
  refine e_iload_n (pc' := 29) dX10_image_28 rfl rfl ?_
  refine e_iconst (pc' := 30) dX10_image_29 rfl ?_
  refine e_bast (pc' := 31) dX10_image_30 rfl h_34 (by decide) (by omega) (by omega) (by decide) ?_
  refine e_iconst (pc' := 32) dX10_image_31 rfl ?_
  exact e_iret dX10_image_32 rfl ⟨rfl, Nat.le_refl _⟩ ⟨_, rfl, rfl, hP1, funext fun j => by show (if 34 = 34 ∧ j = 0 then (1 : Int) else τ1.1 34 j) = (if 34 = 34 ∧ j = 0 then (1 : Int) else σ.1 34 j); rw [(hG1 34 (by decide)).1], fr_I (hG1.mono (by decide)) (by decide)⟩

set_option maxHeartbeats 4000000 in
set_option maxRecDepth 100000 in
theorem l_from_0 {X : AX} {d : Nat} {σ : SG} : Ev X 0 0 (d + 3) mX10_from 23 [some (rv 0), some (iv 0)] [] σ (QI (fun r σ' => r = 1 ∧ SnEq σ' 1 σ 56 ∧ Fr [1, 2, 3, 4, 5, 6, 8, 9, 10, 11, 12, 13, 14, 15, 16] σ σ')) := by
  refine e_aload_n (pc' := 24) dX10_from_23 rfl rfl ?_
  refine e_getR (pc' := 27) dX10_from_24 rfl f_10_10 h_0 rfl ?_
  refine e_aload_n (pc' := 28) dX10_from_27 rfl rfl ?_
  refine e_getR (pc' := 31) dX10_from_28 rfl f_10_19 h_0 rfl ?_
  refine e_iload_n (pc' := 32) dX10_from_31 rfl rfl ?_
  refine e_aald (pc' := 33) (k := 56) dX10_from_32 rfl h_33 (by decide) (by decide) (by omega) (by omega) rfl ?_
  refine e_cv1v (pc' := 36) dX10_from_33 rfl k_10_233 h_1 rfl (Nat.le_of_ble_eq_true rfl) rfl rfl ⟨rfl, rfl⟩ ⟨Nat.zero_le _, Nat.zero_le _⟩ s_take_1_56 ?_
  rintro τ1 ⟨hP1, hG1⟩
  refine e_iconst (pc' := 37) dX10_from_36 rfl ?_
  exact e_iret dX10_from_37 rfl ⟨rfl, Nat.le_refl _⟩ ⟨_, rfl, rfl, hP1, hG1⟩

set_option maxHeartbeats 4000000 in
set_option maxRecDepth 100000 in
theorem l_image_1 {X : AX} {d : Nat} {σ : SG} : Ev X 0 0 (d + 3) mX10_image 11 [some (rv 0), some (iv 1)] [] σ (QI (fun r σ' => r = 1 ∧ SnEq σ' 72 σ 1 ∧ σ'.1 34 = (upI σ 34 1 1).1 34 ∧ Fr [72, 73, 74, 75, 76, 77, 79, 80, 81, 82, 83, 84, 85, 86, 87, 34] σ σ')) := by
  refine e_aload_n (pc' := 12) dX10_image_11 rfl rfl ?_
  refine e_getR (pc' := 15) dX10_image_12 rfl f_10_19 h_0 rfl ?_
  refine e_iload_n (pc' := 16) dX10_image_15 rfl rfl ?_
  refine e_aald (pc' := 17) (k := 72) dX10_image_16 rfl h_33 (by decide) (by decide) (by omega) (by omega) rfl ?_
  refine e_aload_n (pc' := 18) dX10_image_17 rfl rfl ?_
  refine e_getR (pc' := 21) dX10_image_18 rfl f_10_10 h_0 rfl ?_
  refine e_cv1v (pc' := 24) dX10_image_21 rfl k_10_233 h_72 rfl (Nat.le_of_ble_eq_true rfl) rfl rfl ⟨rfl, rfl⟩ ⟨Nat.zero_le _, Nat.zero_le _⟩ s_take_72_1 ?_
  rintro τ1 ⟨hP1, hG1⟩
  refine e_aload_n (pc' := 25) dX10_image_24 rfl rfl ?_
  refine e_getR (pc' := 28) dX10_image_25 rfl f_10_23 h_0 rfl ?_
  refine e_iload_n (pc' := 29) dX10_image_28 rfl rfl ?_
  refine e_iconst (pc' := 30) dX10_image_29 rfl ?_
  refine e_bast (pc' := 31) dX10_image_30 rfl h_34 (by decide) (by omega) (by omega) (by decide) ?_
  refine e_iconst (pc' := 32) dX10_image_31 rfl ?_
  exact e_iret dX10_image_32 rfl ⟨rfl, Nat.le_refl _⟩ ⟨_, rfl, rfl, hP1, funext fun j => by show (if 34 = 34 ∧ j = 1 then (1 : Int) else τ1.1 34 j) = (if 34 = 34 ∧ j = 1 then (1 : Int) else σ.1 34 j); rw [(hG1 34 (by decide)).1], fr_I (hG1.mono (by decide)) (by decide)⟩

set_option maxHeartbeats 4000000 in
set_option maxRecDepth 100000 in
theorem l_from_1 {X : AX} {d : Nat} {σ : SG} : Ev X 0 0 (d + 3) mX10_from 23 [some (rv 0), some (iv 1)] [] σ (QI (fun r σ' => r = 1 ∧ SnEq σ' 1 σ 72 ∧ Fr [1, 2, 3, 4, 5, 6, 8, 9, 10, 11, 12, 13, 14, 15, 16] σ σ')) := by
  refine e_aload_n (pc' := 24) dX10_from_23 rfl rfl ?_
  refine e_getR (pc' := 27) dX10_from_24 rfl f_10_10 h_0 rfl ?_
  refine e_aload_n (pc' := 28) dX10_from_27 rfl rfl ?_
  refine e_getR (pc' := 31) dX10_from_28 rfl f_10_19 h_0 rfl ?_
  refine e_iload_n (pc' := 32) dX10_from_31 rfl rfl ?_
  refine e_aald (pc' := 33) (k := 72) dX10_from_32 rfl h_33 (by decide) (by decide) (by omega) (by omega) rfl ?_
  refine e_cv1v (pc' := 36) dX10_from_33 rfl k_10_233 h_1 rfl (Nat.le_of_ble_eq_true rfl) rfl rfl ⟨rfl, rfl⟩ ⟨Nat.zero_le _, Nat.zero_le _⟩ s_take_1_72 ?_
  rintro τ1 ⟨hP1, hG1⟩
  refine e_iconst (pc' := 37) dX10_from_36 rfl ?_
  exact e_iret dX10_from_37 rfl ⟨rfl, Nat.le_refl _⟩ ⟨_, rfl, rfl, hP1, hG1⟩

def imN (k : Int) : Nat := if k = 0 then 56 else 72
theorem isKept_cases {f : Int → Int} (h : ∀ j, 0 ≤ j → j < 2 → f j = 0 ∨ f j = 1) {k : Int} (a : 0 ≤ k ∧ k ≤ 1) : 0 ≤ f k ∧ f k ≤ 1 := by
  have := h k a.1 (by omega)
  omega

set_option maxHeartbeats 4000000 in
set_option maxRecDepth 100000 in
theorem s_image {X : AX} {d : Nat} {σ : SG} (k : Int) (hk : rg k) : Ev X 0 0 (d + 3) mX10_image 0 [some (rv 0), some (iv k)] [] σ (QI (fun r σ' => if 0 ≤ k ∧ k ≤ 1 then (r = 1 ∧ SnEq σ' (imN k) σ 1 ∧ σ'.1 34 = (upI σ 34 k 1).1 34 ∧ Fr ((if k = 0 then [56, 57, 58, 59, 60, 61, 63, 64, 65, 66, 67, 68, 69, 70, 71] else [72, 73, 74, 75, 76, 77, 79, 80, 81, 82, 83, 84, 85, 86, 87]) ++ [34]) σ σ') else (r = -2 ∧ σ' = σ))) := by
  obtain ⟨hk1, hk2⟩ := hk
  refine e_iload_n (pc' := 1) dX10_image_0 rfl rfl ?_
  refine e_iconst (pc' := 2) dX10_image_1 rfl ?_
  refine e_cs2i (pc' := 5) dX10_image_2 rfl pn_10_89 k_10_89 (Nat.le_of_ble_eq_true rfl) rfl rfl ⟨rfl, rfl⟩ ⟨Nat.zero_le _, Nat.zero_le _⟩ (s_isWithin k 1 ⟨by omega, by omega⟩ ⟨by omega, by omega⟩) ?_
  intro r σ' hr; rw [hr.1, hr.2]; clear hr
  refine e_ifI (pc' := 8) (t := 11) dX10_image_5 (by decide) rfl ⟨by first | omega | (split <;> omega), by first | omega | (split <;> omega)⟩ (fun (c2_1 : ((if 0 ≤ k ∧ k ≤ 1 then 1 else 0) : Int) ≠ 0) => ?_) (fun (c2_1 : ¬ (((if 0 ≤ k ∧ k ≤ 1 then 1 else 0) : Int) ≠ 0)) => ?_)
  · have c2_1n : 0 ≤ k ∧ k ≤ 1 := Classical.byContradiction (fun q => absurd (if_neg q : (if 0 ≤ k ∧ k ≤ 1 then (1 : Int) else 0) = 0) (by have := c2_1; omega))
    have h2 : k = 0 ∨ k = 1 := by omega
    rcases h2 with rfl | rfl
    · refine Ev.imp l_image_0 ?_
      rintro v σ' ⟨r, rfl, h⟩
      exact ⟨r, rfl, Eq.mpr (if_pos (by decide)) h⟩
    · refine Ev.imp l_image_1 ?_
      rintro v σ' ⟨r, rfl, h⟩
      exact ⟨r, rfl, Eq.mpr (if_pos (by decide)) h⟩
  · have c2_1n : ¬ (0 ≤ k ∧ k ≤ 1) := fun q => absurd (if_pos q : (if 0 ≤ k ∧ k ≤ 1 then (1 : Int) else 0) = 1) (by have := c2_1; omega)
    refine e_bipush (pc' := 10) (z := (-2)) dX10_image_8 rfl (by decide) ?_
    exact e_iret dX10_image_10 rfl ⟨rfl, Nat.le_refl _⟩ ⟨_, rfl, by dsimp only; rw [if_neg (by omega)]; exact ⟨rfl, rfl⟩⟩

set_option maxHeartbeats 4000000 in
set_option maxRecDepth 100000 in
theorem s_from {X : AX} {d : Nat} {σ : SG} (hkp : ∀ j, 0 ≤ j → j < 2 → σ.1 34 j = 0 ∨ σ.1 34 j = 1) (k : Int) (hk : rg k) : Ev X 0 0 (d + 3) mX10_from 0 [some (rv 0), some (iv k)] [] σ (QI (fun r σ' => if 0 ≤ k ∧ k ≤ 1 then (if σ.1 34 k = 0 then (r = -3 ∧ σ' = σ) else (r = 1 ∧ SnEq σ' 1 σ (imN k) ∧ Fr [1, 2, 3, 4, 5, 6, 8, 9, 10, 11, 12, 13, 14, 15, 16] σ σ')) else (r = -2 ∧ σ' = σ))) := by
  obtain ⟨hk1, hk2⟩ := hk
  refine e_iload_n (pc' := 1) dX10_from_0 rfl rfl ?_
  refine e_iconst (pc' := 2) dX10_from_1 rfl ?_
  refine e_cs2i (pc' := 5) dX10_from_2 rfl pn_10_89 k_10_89 (Nat.le_of_ble_eq_true rfl) rfl rfl ⟨rfl, rfl⟩ ⟨Nat.zero_le _, Nat.zero_le _⟩ (s_isWithin k 1 ⟨by omega, by omega⟩ ⟨by omega, by omega⟩) ?_
  intro r σ' hr; rw [hr.1, hr.2]; clear hr
  refine e_ifI (pc' := 8) (t := 11) dX10_from_5 (by decide) rfl ⟨by first | omega | (split <;> omega) | (have := isKept_cases hkp (k := k) (by omega); omega), by first | omega | (split <;> omega) | (have := isKept_cases hkp (k := k) (by omega); omega)⟩ (fun (c2_1 : ((if 0 ≤ k ∧ k ≤ 1 then 1 else 0) : Int) ≠ 0) => ?_) (fun (c2_1 : ¬ (((if 0 ≤ k ∧ k ≤ 1 then 1 else 0) : Int) ≠ 0)) => ?_)
  · have c2_1n : 0 ≤ k ∧ k ≤ 1 := Classical.byContradiction (fun q => absurd (if_neg q : (if 0 ≤ k ∧ k ≤ 1 then (1 : Int) else 0) = 0) (by have := c2_1; omega))
    refine e_aload_n (pc' := 12) dX10_from_11 rfl rfl ?_
    refine e_getR (pc' := 15) dX10_from_12 rfl f_10_23 h_0 rfl ?_
    refine e_iload_n (pc' := 16) dX10_from_15 rfl rfl ?_
    refine e_bald (pc' := 17) (v := (σ.1 34 k)) dX10_from_16 rfl h_34 (by decide) (by omega) (by omega) rfl ?_
    refine e_ifI (pc' := 20) (t := 23) dX10_from_17 (by decide) rfl ⟨by first | omega | (split <;> omega) | (have := isKept_cases hkp (k := k) (by omega); omega), by first | omega | (split <;> omega) | (have := isKept_cases hkp (k := k) (by omega); omega)⟩ (fun (c4_2 : ((σ.1 34 k) : Int) ≠ 0) => ?_) (fun (c4_2 : ¬ (((σ.1 34 k) : Int) ≠ 0)) => ?_)
    · have h2 : k = 0 ∨ k = 1 := by omega
      rcases h2 with rfl | rfl
      · refine Ev.imp l_from_0 ?_
        rintro v σ' ⟨r, rfl, h⟩
        exact ⟨r, rfl, Eq.mpr (if_pos (by decide)) (Eq.mpr (if_neg (by assumption)) h)⟩
      · refine Ev.imp l_from_1 ?_
        rintro v σ' ⟨r, rfl, h⟩
        exact ⟨r, rfl, Eq.mpr (if_pos (by decide)) (Eq.mpr (if_neg (by assumption)) h)⟩
    · refine e_bipush (pc' := 22) (z := (-3)) dX10_from_20 rfl (by decide) ?_
      exact e_iret dX10_from_22 rfl ⟨rfl, Nat.le_refl _⟩ ⟨_, rfl, by dsimp only; first | (rw [if_neg (by omega)]; exact ⟨rfl, rfl⟩) | (rw [if_pos (by omega), if_pos (by omega)]; exact ⟨rfl, rfl⟩)⟩
  · have c2_1n : ¬ (0 ≤ k ∧ k ≤ 1) := fun q => absurd (if_pos q : (if 0 ≤ k ∧ k ≤ 1 then (1 : Int) else 0) = 1) (by have := c2_1; omega)
    refine e_bipush (pc' := 10) (z := (-2)) dX10_from_8 rfl (by decide) ?_
    exact e_iret dX10_from_10 rfl ⟨rfl, Nat.le_refl _⟩ ⟨_, rfl, by dsimp only; first | (rw [if_neg (by omega)]; exact ⟨rfl, rfl⟩) | (rw [if_pos (by omega), if_pos (by omega)]; exact ⟨rfl, rfl⟩)⟩

set_option maxHeartbeats 4000000 in
set_option maxRecDepth 100000 in
theorem s_anyway {X : AX} {d : Nat} {σ : SG} {Good : SG → Prop} (ho : ScOK σ 1) (hGd : GdI Good 17 (σ.1 1 6)) (hgood : ∀ τ, PeI τ 17 σ 1 → Fr [17, 18, 19, 20, 21, 22] σ τ → Good τ) (k : Int) (hk : rg k) : Ev X 0 0 (d + 6) mX10_anyway 0 [some (rv 0), some (iv k), none] [] σ (QI (fun r σ' => if 0 ≤ k ∧ k ≤ 1 then ((∃ τ1, PeI τ1 17 σ 1 ∧ Fr [17, 18, 19, 20, 21, 22] σ τ1 ∧ r = (if k = 0 then smI (fun g => gv ((trS τ1 17 (τ1.2 48)).1.1 22) g) (σ.1 1 6) else smI (fun g => gv (σ.1 6) g) (σ.1 1 6) - smI (fun g => gv ((trS τ1 17 (τ1.2 48)).1.1 22) g) (σ.1 1 6))) ∧ Fr [37, 38, 39, 40, 41, 42, 43, 44, 45, 46, 48, 17, 18, 19, 20, 21, 22] σ σ') else (r = -1000 ∧ σ' = σ))) := by
  obtain ⟨hk1, hk2⟩ := hk
  refine e_iload_n (pc' := 1) dX10_anyway_0 rfl rfl ?_
  refine e_iconst (pc' := 2) dX10_anyway_1 rfl ?_
  refine e_cs2i (pc' := 5) dX10_anyway_2 rfl pn_10_89 k_10_89 (Nat.le_of_ble_eq_true rfl) rfl rfl ⟨rfl, rfl⟩ ⟨Nat.zero_le _, Nat.zero_le _⟩ (s_isWithin k 1 ⟨by omega, by omega⟩ ⟨by omega, by omega⟩) ?_
  intro r σ' hr; rw [hr.1, hr.2]; clear hr
  refine e_ifI (pc' := 8) (t := 12) dX10_anyway_5 (by decide) rfl ⟨by first | omega | (split <;> omega), by first | omega | (split <;> omega)⟩ (fun (c2_1 : ((if 0 ≤ k ∧ k ≤ 1 then 1 else 0) : Int) ≠ 0) => ?_) (fun (c2_1 : ¬ (((if 0 ≤ k ∧ k ≤ 1 then 1 else 0) : Int) ≠ 0)) => ?_)
  · have c2_1n : 0 ≤ k ∧ k ≤ 1 := Classical.byContradiction (fun q => absurd (if_neg q : (if 0 ≤ k ∧ k ≤ 1 then (1 : Int) else 0) = 0) (by have := c2_1; omega))
    refine e_aload_n (pc' := 13) dX10_anyway_12 rfl rfl ?_
    refine e_getR (pc' := 16) dX10_anyway_13 rfl f_10_16 h_0 rfl ?_
    refine e_aload_n (pc' := 17) dX10_anyway_16 rfl rfl ?_
    refine e_getR (pc' := 20) dX10_anyway_17 rfl f_10_10 h_0 rfl ?_
    refine e_cv1v (pc' := 23) dX10_anyway_20 rfl k_10_223 h_17 rfl (Nat.le_of_ble_eq_true rfl) rfl rfl ⟨rfl, rfl⟩ ⟨Nat.zero_le _, Nat.zero_le _⟩ s_takePeople_17_1 ?_
    rintro τ1 ⟨hP1, hG1⟩
    have hg1 := hgood τ1 hP1 hG1
    have e6 : τ1.1 17 6 = σ.1 1 6 := hP1.1.1
    refine e_aload_n (pc' := 24) dX10_anyway_23 rfl rfl ?_
    refine e_getR (pc' := 27) dX10_anyway_24 rfl f_10_64 h_0 rfl ?_
    refine e_aload_n (pc' := 28) dX10_anyway_27 rfl rfl ?_
    refine e_getR (pc' := 31) dX10_anyway_28 rfl f_10_16 h_0 rfl ?_
    refine e_cv1i (pc' := 34) dX10_anyway_31 rfl k_10_205 h_47 rfl (Nat.le_of_ble_eq_true rfl) rfl rfl ⟨rfl, rfl⟩ ⟨Nat.zero_le _, Nat.zero_le _⟩ (s_run_17 (by rw [e6]; exact hGd) hg1) ?_
    rintro z τ2 ⟨hz, hS2, hG2⟩
    have hF2 : Fr [37, 38, 39, 40, 41, 42, 43, 44, 45, 46, 48, 17, 18, 19, 20, 21, 22] σ τ2 := (hG1.mono (by decide)).tr (hG2.mono (by decide))
    have e62 : τ2.1 17 6 = σ.1 1 6 := (congrFun (hG2 17 (by decide)).1 6).trans e6
    refine e_pop (pc' := 35) dX10_anyway_34 rfl rfl ?_
    refine e_aload_n (pc' := 36) dX10_anyway_35 rfl rfl ?_
    refine e_getR (pc' := 39) dX10_anyway_36 rfl f_10_16 h_0 rfl ?_
    refine e_cv0i (pc' := 42) dX10_anyway_39 rfl k_10_226 h_17 rfl (Nat.le_of_ble_eq_true rfl) rfl rfl ⟨rfl, rfl⟩ ⟨Nat.zero_le _, Nat.zero_le _⟩ (s_givenInAll_17 (by rw [e62]; exact ho.1)) ?_
    intro r σ' hr; rw [hr.1, hr.2]; clear hr σ'
    rw [e62, hS2 22 (by decide) (by decide)]
    refine e_istore_n (pc' := 43) (L' := [some (rv 0), some (iv k), some (iv (smI (fun g => gv ((trS τ1 17 (τ1.2 48)).1.1 22) g) (σ.1 1 6)))]) dX10_anyway_42 rfl (by decide) rfl ?_
    refine e_iload_n (pc' := 44) dX10_anyway_43 rfl rfl ?_
    refine e_ifI (pc' := 47) (t := 51) dX10_anyway_44 (by decide) rfl ⟨by first | omega | (split <;> omega), by first | omega | (split <;> omega)⟩ (fun (c4_2 : (k : Int) ≠ 0) => ?_) (fun (c4_2 : ¬ ((k : Int) ≠ 0)) => ?_)
    · refine e_aload_n (pc' := 52) dX10_anyway_51 rfl rfl ?_
      refine e_getR (pc' := 55) dX10_anyway_52 rfl f_10_10 h_0 rfl ?_
      refine e_cv0i (pc' := 58) dX10_anyway_55 rfl k_10_226 h_1 rfl (Nat.le_of_ble_eq_true rfl) rfl rfl ⟨rfl, rfl⟩ ⟨Nat.zero_le _, Nat.zero_le _⟩ (s_givenInAll_1 (by rw [(hF2 1 (by decide)).1]; exact ho.1)) ?_
      intro r σ' hr; rw [hr.1, hr.2]; clear hr σ'
      rw [(hF2 1 (by decide)).1, (hF2 6 (by decide)).1]
      refine e_iload_n (pc' := 59) dX10_anyway_58 rfl rfl ?_
      refine e_isub (pc' := 60) dX10_anyway_59 rfl ?_
      exact e_iret dX10_anyway_60 rfl ⟨rfl, Nat.le_refl _⟩ ⟨_, rfl, by dsimp only; rw [if_pos (by omega)]; exact ⟨⟨τ1, hP1, hG1, by first | rw [if_pos (by omega)] | rw [if_neg (by omega)]⟩, hF2⟩⟩
    · refine e_iload_n (pc' := 48) dX10_anyway_47 rfl rfl ?_
      refine e_goto (pc' := 60) dX10_anyway_48 (by decide) ?_
      exact e_iret dX10_anyway_60 rfl ⟨rfl, Nat.le_refl _⟩ ⟨_, rfl, by dsimp only; rw [if_pos (by omega)]; exact ⟨⟨τ1, hP1, hG1, by first | rw [if_pos (by omega)] | rw [if_neg (by omega)]⟩, hF2⟩⟩
  · have c2_1n : ¬ (0 ≤ k ∧ k ≤ 1) := fun q => absurd (if_pos q : (if 0 ≤ k ∧ k ≤ 1 then (1 : Int) else 0) = 1) (by have := c2_1; omega)
    refine e_sipush (pc' := 11) (z := (-1000)) dX10_anyway_8 rfl (by decide) ?_
    exact e_iret dX10_anyway_11 rfl ⟨rfl, Nat.le_refl _⟩ ⟨_, rfl, by dsimp only; rw [if_neg (by omega)]; exact ⟨rfl, rfl⟩⟩
