/-! the digest -/
def fdJ (f : Int → Int64 → Int64) : Nat → Int64 → Int64
  | 0, h => h
  | n + 1, h => f n (fdJ f n h)
def fdJI (f : Int → Int64 → Int64) (i : Int) (h : Int64) : Int64 := fdJ f i.toNat h
theorem fdJI_s (f : Int → Int64 → Int64) {i : Int} (hi : 0 ≤ i) (h : Int64) : fdJI f (i + 1) h = f i (fdJI f i h) := by
  unfold fdJI
  have e1 : (i + 1).toNat = i.toNat + 1 := by omega
  rw [e1]
  show f ((i.toNat : Nat) : Int) _ = _
  rw [Int.toNat_of_nonneg hi]
def hj (h : Int64) (v : Int) : Int64 := 31 * h + Int64.ofInt v
def dgg (co fi fa gi : Int → Int) (g : Int) (h : Int64) : Int64 := hj (hj (hj (hj (hj (hj (hj (hj (hj (hj h (co g)) (fi (g * 3 + 0))) (fa (g * 3 + 0))) (gi (g * 3 + 0))) (fi (g * 3 + 1))) (fa (g * 3 + 1))) (gi (g * 3 + 1))) (fi (g * 3 + 2))) (fa (g * 3 + 2))) (gi (g * 3 + 2))
def dgw (ba gf wd ad : Int → Int) (w : Int) (h : Int64) : Int64 := hj (hj (hj (hj h (ba w)) (gf w)) (wd w)) (ad w) * 31 + Int64.ofInt (gf w) + Int64.ofInt (ad w)
def dgr (n : Int) (T : Int → Int) (h : Int64) : Int64 := fdJI (fun k h => hj h (T k)) n (hj h n)

set_option maxHeartbeats 4000000 in
set_option maxRecDepth 100000 in
theorem l_dgG {X : AX} {d : Nat} {σ : SG} (ho : ScOK σ 1) (h0 : Int64) : ∀ (k : Nat) (i : Int) (h : Int64) (x6 x7 : Option AV), 0 ≤ i → i ≤ σ.1 1 6 → σ.1 1 6 - i < k → h = fdJI (dgg (σ.1 2) (σ.1 4) (σ.1 5) (σ.1 6)) i h0 → Ev X 0 0 d mX10_digestGivers 5 [some (rv 0), some (jv h0), none, some (jv h), none, some (iv i), x6, x7] [] σ (QJ (fun v σ' => σ' = σ ∧ v = fdJI (dgg (σ.1 2) (σ.1 4) (σ.1 5) (σ.1 6)) (σ.1 1 6) h0)) := by
  intro k
  induction k with
  | zero => intros; omega
  | succ k ih =>
  intro i h x6 x7 hi0 hi1 hik hh
  have h6 := ho.1
  have h7 := ho.2.1
  have hA : ∀ j, 0 ≤ j → j < 15 → rg (σ.1 4 j) := fun j a b => by have q : 0 ≤ σ.1 4 j ∧ σ.1 4 j ≤ 200 := ho.2.2.2.2.2.2.2.2.1 j a b; exact ⟨by omega, by omega⟩
  have hB : ∀ j, 0 ≤ j → j < 15 → rg (σ.1 5 j) := fun j a b => by have q : 0 ≤ σ.1 5 j ∧ σ.1 5 j ≤ 50 := ho.2.2.2.2.2.2.2.2.2.1 j a b; exact ⟨by omega, by omega⟩
  have hC : ∀ j, 0 ≤ j → j < 15 → rg (σ.1 6 j) := fun j a b => by have q : 0 ≤ σ.1 6 j ∧ σ.1 6 j ≤ 12 := ho.2.2.2.2.2.2.1 j a b; exact ⟨by omega, by omega⟩
  have hD : ∀ j, 0 ≤ j → j < 3 → rg (σ.1 3 j) := fun j a b => by have q : 0 ≤ σ.1 3 j ∧ σ.1 3 j ≤ 60 := ho.2.2.2.2.2.2.2.1 j a b; exact ⟨by omega, by omega⟩
  refine e_iload (pc' := 7) dX10_digestGivers_5 rfl rfl ?_
  refine e_aload_n (pc' := 8) dX10_digestGivers_7 rfl rfl ?_
  refine e_getR (pc' := 11) dX10_digestGivers_8 rfl f_10_10 h_0 rfl ?_
  refine e_getI (pc' := 14) (v := (σ.1 1 6)) dX10_digestGivers_11 rfl f_10_93 h_1 rfl rfl ?_
  refine e_icmpI (pc' := 17) (t := 119) dX10_digestGivers_14 (by decide) rfl (by first | exact ⟨by omega, by omega⟩ | (have q1 : 0 ≤ σ.1 2 i ∧ σ.1 2 i ≤ 12 := ho.2.2.2.2.2.2.2.2.2.2.1 i (by omega) (by omega); exact ⟨by omega, by omega⟩) | exact hA _ (by omega) (by omega) | exact hB _ (by omega) (by omega) | exact hC _ (by omega) (by omega) | exact hD _ (by omega) (by omega)) (by first | exact ⟨by omega, by omega⟩ | (have q1 : 0 ≤ σ.1 2 i ∧ σ.1 2 i ≤ 12 := ho.2.2.2.2.2.2.2.2.2.2.1 i (by omega) (by omega); exact ⟨by omega, by omega⟩) | exact hA _ (by omega) (by omega) | exact hB _ (by omega) (by omega) | exact hC _ (by omega) (by omega) | exact hD _ (by omega) (by omega)) (fun (c2_1 : (σ.1 1 6) ≤ (i : Int)) => ?_) (fun (c2_1 : ¬ ((σ.1 1 6) ≤ (i : Int))) => ?_)
  · refine e_lload_n (pc' := 120) dX10_digestGivers_119 rfl rfl ?_
    exact e_lret dX10_digestGivers_120 rfl ⟨rfl, Nat.le_refl _⟩ ⟨_, rfl, rfl, by rw [show σ.1 1 6 = i by omega]; exact hh⟩
  · refine e_ldc2 (pc' := 20) dX10_digestGivers_17 rfl c_10_241 ?_
    refine e_lload_n (pc' := 21) dX10_digestGivers_20 rfl rfl ?_
    refine e_lmul (pc' := 22) dX10_digestGivers_21 rfl ?_
    refine e_aload_n (pc' := 23) dX10_digestGivers_22 rfl rfl ?_
    refine e_getR (pc' := 26) dX10_digestGivers_23 rfl f_10_10 h_0 rfl ?_
    refine e_getR (pc' := 29) dX10_digestGivers_26 rfl f_10_97 h_1 rfl ?_
    refine e_iload (pc' := 31) dX10_digestGivers_29 rfl rfl ?_
    refine e_iald (pc' := 32) (v := (σ.1 2 i)) dX10_digestGivers_31 rfl h_2 (by decide) (by omega) (by omega) rfl ?_
    refine e_i2l (pc' := 33) dX10_digestGivers_32 rfl (by first | exact ⟨by omega, by omega⟩ | (have q1 : 0 ≤ σ.1 2 i ∧ σ.1 2 i ≤ 12 := ho.2.2.2.2.2.2.2.2.2.2.1 i (by omega) (by omega); exact ⟨by omega, by omega⟩) | exact hA _ (by omega) (by omega) | exact hB _ (by omega) (by omega) | exact hC _ (by omega) (by omega) | exact hD _ (by omega) (by omega)) ?_
    refine e_ladd (pc' := 34) dX10_digestGivers_33 rfl ?_
    refine e_lstore_n (pc' := 35) (L' := [some (rv 0), some (jv h0), none, some (jv ((31 * h) + (Int64.ofInt (σ.1 2 i)))), none, some (iv i), x6, x7]) dX10_digestGivers_34 rfl (by decide) rfl ?_
    refine e_iconst (pc' := 36) dX10_digestGivers_35 rfl ?_
    refine e_istore (pc' := 38) (L' := [some (rv 0), some (jv h0), none, some (jv ((31 * h) + (Int64.ofInt (σ.1 2 i)))), none, some (iv i), some (iv 0), x7]) dX10_digestGivers_36 rfl (by decide) rfl ?_
    refine e_iload (pc' := 40) dX10_digestGivers_38 rfl rfl ?_
    refine e_iconst (pc' := 41) dX10_digestGivers_40 rfl ?_
    refine e_icmpI (pc' := 44) (t := 113) dX10_digestGivers_41 (by decide) rfl ⟨by omega, by omega⟩ ⟨by omega, by omega⟩ (fun c4_2 => absurd (show 3 ≤ (0 : Int) from c4_2) (by decide)) (fun _ => ?_)
    refine e_iload (pc' := 46) dX10_digestGivers_44 rfl rfl ?_
    refine e_iconst (pc' := 47) dX10_digestGivers_46 rfl ?_
    refine e_imul (pc' := 48) dX10_digestGivers_47 rfl ?_
    refine e_iload (pc' := 50) dX10_digestGivers_48 rfl rfl ?_
    refine e_iadd (pc' := 51) dX10_digestGivers_50 rfl ?_
    refine e_istore (pc' := 53) (L' := [some (rv 0), some (jv h0), none, some (jv ((31 * h) + (Int64.ofInt (σ.1 2 i)))), none, some (iv i), some (iv 0), some (iv ((i * 3) + 0))]) dX10_digestGivers_51 rfl (by decide) rfl ?_
    refine e_ldc2 (pc' := 56) dX10_digestGivers_53 rfl c_10_241 ?_
    refine e_lload_n (pc' := 57) dX10_digestGivers_56 rfl rfl ?_
    refine e_lmul (pc' := 58) dX10_digestGivers_57 rfl ?_
    refine e_aload_n (pc' := 59) dX10_digestGivers_58 rfl rfl ?_
    refine e_getR (pc' := 62) dX10_digestGivers_59 rfl f_10_10 h_0 rfl ?_
    refine e_getR (pc' := 65) dX10_digestGivers_62 rfl f_10_110 h_1 rfl ?_
    refine e_iload (pc' := 67) dX10_digestGivers_65 rfl rfl ?_
    refine e_iald (pc' := 68) (v := (σ.1 4 ((i * 3) + 0))) dX10_digestGivers_67 rfl h_4 (by decide) (by omega) (by omega) rfl ?_
    refine e_i2l (pc' := 69) dX10_digestGivers_68 rfl (by first | exact ⟨by omega, by omega⟩ | (have q1 : 0 ≤ σ.1 2 i ∧ σ.1 2 i ≤ 12 := ho.2.2.2.2.2.2.2.2.2.2.1 i (by omega) (by omega); exact ⟨by omega, by omega⟩) | exact hA _ (by omega) (by omega) | exact hB _ (by omega) (by omega) | exact hC _ (by omega) (by omega) | exact hD _ (by omega) (by omega)) ?_
    refine e_ladd (pc' := 70) dX10_digestGivers_69 rfl ?_
    refine e_lstore_n (pc' := 71) (L' := [some (rv 0), some (jv h0), none, some (jv ((31 * ((31 * h) + (Int64.ofInt (σ.1 2 i)))) + (Int64.ofInt (σ.1 4 ((i * 3) + 0))))), none, some (iv i), some (iv 0), some (iv ((i * 3) + 0))]) dX10_digestGivers_70 rfl (by decide) rfl ?_
    refine e_ldc2 (pc' := 74) dX10_digestGivers_71 rfl c_10_241 ?_
    refine e_lload_n (pc' := 75) dX10_digestGivers_74 rfl rfl ?_
    refine e_lmul (pc' := 76) dX10_digestGivers_75 rfl ?_
    refine e_aload_n (pc' := 77) dX10_digestGivers_76 rfl rfl ?_
    refine e_getR (pc' := 80) dX10_digestGivers_77 rfl f_10_10 h_0 rfl ?_
    refine e_getR (pc' := 83) dX10_digestGivers_80 rfl f_10_113 h_1 rfl ?_
    refine e_iload (pc' := 85) dX10_digestGivers_83 rfl rfl ?_
    refine e_iald (pc' := 86) (v := (σ.1 5 ((i * 3) + 0))) dX10_digestGivers_85 rfl h_5 (by decide) (by omega) (by omega) rfl ?_
    refine e_i2l (pc' := 87) dX10_digestGivers_86 rfl (by first | exact ⟨by omega, by omega⟩ | (have q1 : 0 ≤ σ.1 2 i ∧ σ.1 2 i ≤ 12 := ho.2.2.2.2.2.2.2.2.2.2.1 i (by omega) (by omega); exact ⟨by omega, by omega⟩) | exact hA _ (by omega) (by omega) | exact hB _ (by omega) (by omega) | exact hC _ (by omega) (by omega) | exact hD _ (by omega) (by omega)) ?_
    refine e_ladd (pc' := 88) dX10_digestGivers_87 rfl ?_
    refine e_lstore_n (pc' := 89) (L' := [some (rv 0), some (jv h0), none, some (jv ((31 * ((31 * ((31 * h) + (Int64.ofInt (σ.1 2 i)))) + (Int64.ofInt (σ.1 4 ((i * 3) + 0))))) + (Int64.ofInt (σ.1 5 ((i * 3) + 0))))), none, some (iv i), some (iv 0), some (iv ((i * 3) + 0))]) dX10_digestGivers_88 rfl (by decide) rfl ?_
    refine e_ldc2 (pc' := 92) dX10_digestGivers_89 rfl c_10_241 ?_
    refine e_lload_n (pc' := 93) dX10_digestGivers_92 rfl rfl ?_
    refine e_lmul (pc' := 94) dX10_digestGivers_93 rfl ?_
    refine e_aload_n (pc' := 95) dX10_digestGivers_94 rfl rfl ?_
    refine e_getR (pc' := 98) dX10_digestGivers_95 rfl f_10_10 h_0 rfl ?_
    refine e_getR (pc' := 101) dX10_digestGivers_98 rfl f_10_152 h_1 rfl ?_
    refine e_iload (pc' := 103) dX10_digestGivers_101 rfl rfl ?_
    refine e_iald (pc' := 104) (v := (σ.1 6 ((i * 3) + 0))) dX10_digestGivers_103 rfl h_6 (by decide) (by omega) (by omega) rfl ?_
    refine e_i2l (pc' := 105) dX10_digestGivers_104 rfl (by first | exact ⟨by omega, by omega⟩ | (have q1 : 0 ≤ σ.1 2 i ∧ σ.1 2 i ≤ 12 := ho.2.2.2.2.2.2.2.2.2.2.1 i (by omega) (by omega); exact ⟨by omega, by omega⟩) | exact hA _ (by omega) (by omega) | exact hB _ (by omega) (by omega) | exact hC _ (by omega) (by omega) | exact hD _ (by omega) (by omega)) ?_
    refine e_ladd (pc' := 106) dX10_digestGivers_105 rfl ?_
    refine e_lstore_n (pc' := 107) (L' := [some (rv 0), some (jv h0), none, some (jv ((31 * ((31 * ((31 * ((31 * h) + (Int64.ofInt (σ.1 2 i)))) + (Int64.ofInt (σ.1 4 ((i * 3) + 0))))) + (Int64.ofInt (σ.1 5 ((i * 3) + 0))))) + (Int64.ofInt (σ.1 6 ((i * 3) + 0))))), none, some (iv i), some (iv 0), some (iv ((i * 3) + 0))]) dX10_digestGivers_106 rfl (by decide) rfl ?_
    refine e_iinc (pc' := 110) (L' := [some (rv 0), some (jv h0), none, some (jv ((31 * ((31 * ((31 * ((31 * h) + (Int64.ofInt (σ.1 2 i)))) + (Int64.ofInt (σ.1 4 ((i * 3) + 0))))) + (Int64.ofInt (σ.1 5 ((i * 3) + 0))))) + (Int64.ofInt (σ.1 6 ((i * 3) + 0))))), none, some (iv i), some (iv 1), some (iv ((i * 3) + 0))]) dX10_digestGivers_107 rfl rfl (by decide) rfl ?_
    refine e_goto (pc' := 38) dX10_digestGivers_110 (by decide) ?_
    refine e_iload (pc' := 40) dX10_digestGivers_38 rfl rfl ?_
    refine e_iconst (pc' := 41) dX10_digestGivers_40 rfl ?_
    refine e_icmpI (pc' := 44) (t := 113) dX10_digestGivers_41 (by decide) rfl ⟨by omega, by omega⟩ ⟨by omega, by omega⟩ (fun c4_3 => absurd (show 3 ≤ (1 : Int) from c4_3) (by decide)) (fun _ => ?_)
    refine e_iload (pc' := 46) dX10_digestGivers_44 rfl rfl ?_
    refine e_iconst (pc' := 47) dX10_digestGivers_46 rfl ?_
    refine e_imul (pc' := 48) dX10_digestGivers_47 rfl ?_
    refine e_iload (pc' := 50) dX10_digestGivers_48 rfl rfl ?_
    refine e_iadd (pc' := 51) dX10_digestGivers_50 rfl ?_
    refine e_istore (pc' := 53) (L' := [some (rv 0), some (jv h0), none, some (jv ((31 * ((31 * ((31 * ((31 * h) + (Int64.ofInt (σ.1 2 i)))) + (Int64.ofInt (σ.1 4 ((i * 3) + 0))))) + (Int64.ofInt (σ.1 5 ((i * 3) + 0))))) + (Int64.ofInt (σ.1 6 ((i * 3) + 0))))), none, some (iv i), some (iv 1), some (iv ((i * 3) + 1))]) dX10_digestGivers_51 rfl (by decide) rfl ?_
    refine e_ldc2 (pc' := 56) dX10_digestGivers_53 rfl c_10_241 ?_
    refine e_lload_n (pc' := 57) dX10_digestGivers_56 rfl rfl ?_
    refine e_lmul (pc' := 58) dX10_digestGivers_57 rfl ?_
    refine e_aload_n (pc' := 59) dX10_digestGivers_58 rfl rfl ?_
    refine e_getR (pc' := 62) dX10_digestGivers_59 rfl f_10_10 h_0 rfl ?_
    refine e_getR (pc' := 65) dX10_digestGivers_62 rfl f_10_110 h_1 rfl ?_
    refine e_iload (pc' := 67) dX10_digestGivers_65 rfl rfl ?_
    refine e_iald (pc' := 68) (v := (σ.1 4 ((i * 3) + 1))) dX10_digestGivers_67 rfl h_4 (by decide) (by omega) (by omega) rfl ?_
    refine e_i2l (pc' := 69) dX10_digestGivers_68 rfl (by first | exact ⟨by omega, by omega⟩ | (have q1 : 0 ≤ σ.1 2 i ∧ σ.1 2 i ≤ 12 := ho.2.2.2.2.2.2.2.2.2.2.1 i (by omega) (by omega); exact ⟨by omega, by omega⟩) | exact hA _ (by omega) (by omega) | exact hB _ (by omega) (by omega) | exact hC _ (by omega) (by omega) | exact hD _ (by omega) (by omega)) ?_
    refine e_ladd (pc' := 70) dX10_digestGivers_69 rfl ?_
    refine e_lstore_n (pc' := 71) (L' := [some (rv 0), some (jv h0), none, some (jv ((31 * ((31 * ((31 * ((31 * ((31 * h) + (Int64.ofInt (σ.1 2 i)))) + (Int64.ofInt (σ.1 4 ((i * 3) + 0))))) + (Int64.ofInt (σ.1 5 ((i * 3) + 0))))) + (Int64.ofInt (σ.1 6 ((i * 3) + 0))))) + (Int64.ofInt (σ.1 4 ((i * 3) + 1))))), none, some (iv i), some (iv 1), some (iv ((i * 3) + 1))]) dX10_digestGivers_70 rfl (by decide) rfl ?_
    refine e_ldc2 (pc' := 74) dX10_digestGivers_71 rfl c_10_241 ?_
    refine e_lload_n (pc' := 75) dX10_digestGivers_74 rfl rfl ?_
    refine e_lmul (pc' := 76) dX10_digestGivers_75 rfl ?_
    refine e_aload_n (pc' := 77) dX10_digestGivers_76 rfl rfl ?_
    refine e_getR (pc' := 80) dX10_digestGivers_77 rfl f_10_10 h_0 rfl ?_
    refine e_getR (pc' := 83) dX10_digestGivers_80 rfl f_10_113 h_1 rfl ?_
    refine e_iload (pc' := 85) dX10_digestGivers_83 rfl rfl ?_
    refine e_iald (pc' := 86) (v := (σ.1 5 ((i * 3) + 1))) dX10_digestGivers_85 rfl h_5 (by decide) (by omega) (by omega) rfl ?_
    refine e_i2l (pc' := 87) dX10_digestGivers_86 rfl (by first | exact ⟨by omega, by omega⟩ | (have q1 : 0 ≤ σ.1 2 i ∧ σ.1 2 i ≤ 12 := ho.2.2.2.2.2.2.2.2.2.2.1 i (by omega) (by omega); exact ⟨by omega, by omega⟩) | exact hA _ (by omega) (by omega) | exact hB _ (by omega) (by omega) | exact hC _ (by omega) (by omega) | exact hD _ (by omega) (by omega)) ?_
    refine e_ladd (pc' := 88) dX10_digestGivers_87 rfl ?_
    refine e_lstore_n (pc' := 89) (L' := [some (rv 0), some (jv h0), none, some (jv ((31 * ((31 * ((31 * ((31 * ((31 * ((31 * h) + (Int64.ofInt (σ.1 2 i)))) + (Int64.ofInt (σ.1 4 ((i * 3) + 0))))) + (Int64.ofInt (σ.1 5 ((i * 3) + 0))))) + (Int64.ofInt (σ.1 6 ((i * 3) + 0))))) + (Int64.ofInt (σ.1 4 ((i * 3) + 1))))) + (Int64.ofInt (σ.1 5 ((i * 3) + 1))))), none, some (iv i), some (iv 1), some (iv ((i * 3) + 1))]) dX10_digestGivers_88 rfl (by decide) rfl ?_
    refine e_ldc2 (pc' := 92) dX10_digestGivers_89 rfl c_10_241 ?_
    refine e_lload_n (pc' := 93) dX10_digestGivers_92 rfl rfl ?_
    refine e_lmul (pc' := 94) dX10_digestGivers_93 rfl ?_
    refine e_aload_n (pc' := 95) dX10_digestGivers_94 rfl rfl ?_
    refine e_getR (pc' := 98) dX10_digestGivers_95 rfl f_10_10 h_0 rfl ?_
    refine e_getR (pc' := 101) dX10_digestGivers_98 rfl f_10_152 h_1 rfl ?_
    refine e_iload (pc' := 103) dX10_digestGivers_101 rfl rfl ?_
    refine e_iald (pc' := 104) (v := (σ.1 6 ((i * 3) + 1))) dX10_digestGivers_103 rfl h_6 (by decide) (by omega) (by omega) rfl ?_
    refine e_i2l (pc' := 105) dX10_digestGivers_104 rfl (by first | exact ⟨by omega, by omega⟩ | (have q1 : 0 ≤ σ.1 2 i ∧ σ.1 2 i ≤ 12 := ho.2.2.2.2.2.2.2.2.2.2.1 i (by omega) (by omega); exact ⟨by omega, by omega⟩) | exact hA _ (by omega) (by omega) | exact hB _ (by omega) (by omega) | exact hC _ (by omega) (by omega) | exact hD _ (by omega) (by omega)) ?_
    refine e_ladd (pc' := 106) dX10_digestGivers_105 rfl ?_
    refine e_lstore_n (pc' := 107) (L' := [some (rv 0), some (jv h0), none, some (jv ((31 * ((31 * ((31 * ((31 * ((31 * ((31 * ((31 * h) + (Int64.ofInt (σ.1 2 i)))) + (Int64.ofInt (σ.1 4 ((i * 3) + 0))))) + (Int64.ofInt (σ.1 5 ((i * 3) + 0))))) + (Int64.ofInt (σ.1 6 ((i * 3) + 0))))) + (Int64.ofInt (σ.1 4 ((i * 3) + 1))))) + (Int64.ofInt (σ.1 5 ((i * 3) + 1))))) + (Int64.ofInt (σ.1 6 ((i * 3) + 1))))), none, some (iv i), some (iv 1), some (iv ((i * 3) + 1))]) dX10_digestGivers_106 rfl (by decide) rfl ?_
    refine e_iinc (pc' := 110) (L' := [some (rv 0), some (jv h0), none, some (jv ((31 * ((31 * ((31 * ((31 * ((31 * ((31 * ((31 * h) + (Int64.ofInt (σ.1 2 i)))) + (Int64.ofInt (σ.1 4 ((i * 3) + 0))))) + (Int64.ofInt (σ.1 5 ((i * 3) + 0))))) + (Int64.ofInt (σ.1 6 ((i * 3) + 0))))) + (Int64.ofInt (σ.1 4 ((i * 3) + 1))))) + (Int64.ofInt (σ.1 5 ((i * 3) + 1))))) + (Int64.ofInt (σ.1 6 ((i * 3) + 1))))), none, some (iv i), some (iv 2), some (iv ((i * 3) + 1))]) dX10_digestGivers_107 rfl rfl (by decide) rfl ?_
    refine e_goto (pc' := 38) dX10_digestGivers_110 (by decide) ?_
    refine e_iload (pc' := 40) dX10_digestGivers_38 rfl rfl ?_
    refine e_iconst (pc' := 41) dX10_digestGivers_40 rfl ?_
    refine e_icmpI (pc' := 44) (t := 113) dX10_digestGivers_41 (by decide) rfl ⟨by omega, by omega⟩ ⟨by omega, by omega⟩ (fun c4_4 => absurd (show 3 ≤ (2 : Int) from c4_4) (by decide)) (fun _ => ?_)
    refine e_iload (pc' := 46) dX10_digestGivers_44 rfl rfl ?_
    refine e_iconst (pc' := 47) dX10_digestGivers_46 rfl ?_
    refine e_imul (pc' := 48) dX10_digestGivers_47 rfl ?_
    refine e_iload (pc' := 50) dX10_digestGivers_48 rfl rfl ?_
    refine e_iadd (pc' := 51) dX10_digestGivers_50 rfl ?_
    refine e_istore (pc' := 53) (L' := [some (rv 0), some (jv h0), none, some (jv ((31 * ((31 * ((31 * ((31 * ((31 * ((31 * ((31 * h) + (Int64.ofInt (σ.1 2 i)))) + (Int64.ofInt (σ.1 4 ((i * 3) + 0))))) + (Int64.ofInt (σ.1 5 ((i * 3) + 0))))) + (Int64.ofInt (σ.1 6 ((i * 3) + 0))))) + (Int64.ofInt (σ.1 4 ((i * 3) + 1))))) + (Int64.ofInt (σ.1 5 ((i * 3) + 1))))) + (Int64.ofInt (σ.1 6 ((i * 3) + 1))))), none, some (iv i), some (iv 2), some (iv ((i * 3) + 2))]) dX10_digestGivers_51 rfl (by decide) rfl ?_
    refine e_ldc2 (pc' := 56) dX10_digestGivers_53 rfl c_10_241 ?_
    refine e_lload_n (pc' := 57) dX10_digestGivers_56 rfl rfl ?_
    refine e_lmul (pc' := 58) dX10_digestGivers_57 rfl ?_
    refine e_aload_n (pc' := 59) dX10_digestGivers_58 rfl rfl ?_
    refine e_getR (pc' := 62) dX10_digestGivers_59 rfl f_10_10 h_0 rfl ?_
    refine e_getR (pc' := 65) dX10_digestGivers_62 rfl f_10_110 h_1 rfl ?_
    refine e_iload (pc' := 67) dX10_digestGivers_65 rfl rfl ?_
    refine e_iald (pc' := 68) (v := (σ.1 4 ((i * 3) + 2))) dX10_digestGivers_67 rfl h_4 (by decide) (by omega) (by omega) rfl ?_
    refine e_i2l (pc' := 69) dX10_digestGivers_68 rfl (by first | exact ⟨by omega, by omega⟩ | (have q1 : 0 ≤ σ.1 2 i ∧ σ.1 2 i ≤ 12 := ho.2.2.2.2.2.2.2.2.2.2.1 i (by omega) (by omega); exact ⟨by omega, by omega⟩) | exact hA _ (by omega) (by omega) | exact hB _ (by omega) (by omega) | exact hC _ (by omega) (by omega) | exact hD _ (by omega) (by omega)) ?_
    refine e_ladd (pc' := 70) dX10_digestGivers_69 rfl ?_
    refine e_lstore_n (pc' := 71) (L' := [some (rv 0), some (jv h0), none, some (jv ((31 * ((31 * ((31 * ((31 * ((31 * ((31 * ((31 * ((31 * h) + (Int64.ofInt (σ.1 2 i)))) + (Int64.ofInt (σ.1 4 ((i * 3) + 0))))) + (Int64.ofInt (σ.1 5 ((i * 3) + 0))))) + (Int64.ofInt (σ.1 6 ((i * 3) + 0))))) + (Int64.ofInt (σ.1 4 ((i * 3) + 1))))) + (Int64.ofInt (σ.1 5 ((i * 3) + 1))))) + (Int64.ofInt (σ.1 6 ((i * 3) + 1))))) + (Int64.ofInt (σ.1 4 ((i * 3) + 2))))), none, some (iv i), some (iv 2), some (iv ((i * 3) + 2))]) dX10_digestGivers_70 rfl (by decide) rfl ?_
    refine e_ldc2 (pc' := 74) dX10_digestGivers_71 rfl c_10_241 ?_
    refine e_lload_n (pc' := 75) dX10_digestGivers_74 rfl rfl ?_
    refine e_lmul (pc' := 76) dX10_digestGivers_75 rfl ?_
    refine e_aload_n (pc' := 77) dX10_digestGivers_76 rfl rfl ?_
    refine e_getR (pc' := 80) dX10_digestGivers_77 rfl f_10_10 h_0 rfl ?_
    refine e_getR (pc' := 83) dX10_digestGivers_80 rfl f_10_113 h_1 rfl ?_
    refine e_iload (pc' := 85) dX10_digestGivers_83 rfl rfl ?_
    refine e_iald (pc' := 86) (v := (σ.1 5 ((i * 3) + 2))) dX10_digestGivers_85 rfl h_5 (by decide) (by omega) (by omega) rfl ?_
    refine e_i2l (pc' := 87) dX10_digestGivers_86 rfl (by first | exact ⟨by omega, by omega⟩ | (have q1 : 0 ≤ σ.1 2 i ∧ σ.1 2 i ≤ 12 := ho.2.2.2.2.2.2.2.2.2.2.1 i (by omega) (by omega); exact ⟨by omega, by omega⟩) | exact hA _ (by omega) (by omega) | exact hB _ (by omega) (by omega) | exact hC _ (by omega) (by omega) | exact hD _ (by omega) (by omega)) ?_
    refine e_ladd (pc' := 88) dX10_digestGivers_87 rfl ?_
    refine e_lstore_n (pc' := 89) (L' := [some (rv 0), some (jv h0), none, some (jv ((31 * ((31 * ((31 * ((31 * ((31 * ((31 * ((31 * ((31 * ((31 * h) + (Int64.ofInt (σ.1 2 i)))) + (Int64.ofInt (σ.1 4 ((i * 3) + 0))))) + (Int64.ofInt (σ.1 5 ((i * 3) + 0))))) + (Int64.ofInt (σ.1 6 ((i * 3) + 0))))) + (Int64.ofInt (σ.1 4 ((i * 3) + 1))))) + (Int64.ofInt (σ.1 5 ((i * 3) + 1))))) + (Int64.ofInt (σ.1 6 ((i * 3) + 1))))) + (Int64.ofInt (σ.1 4 ((i * 3) + 2))))) + (Int64.ofInt (σ.1 5 ((i * 3) + 2))))), none, some (iv i), some (iv 2), some (iv ((i * 3) + 2))]) dX10_digestGivers_88 rfl (by decide) rfl ?_
    refine e_ldc2 (pc' := 92) dX10_digestGivers_89 rfl c_10_241 ?_
    refine e_lload_n (pc' := 93) dX10_digestGivers_92 rfl rfl ?_
    refine e_lmul (pc' := 94) dX10_digestGivers_93 rfl ?_
    refine e_aload_n (pc' := 95) dX10_digestGivers_94 rfl rfl ?_
    refine e_getR (pc' := 98) dX10_digestGivers_95 rfl f_10_10 h_0 rfl ?_
    refine e_getR (pc' := 101) dX10_digestGivers_98 rfl f_10_152 h_1 rfl ?_
    refine e_iload (pc' := 103) dX10_digestGivers_101 rfl rfl ?_
    refine e_iald (pc' := 104) (v := (σ.1 6 ((i * 3) + 2))) dX10_digestGivers_103 rfl h_6 (by decide) (by omega) (by omega) rfl ?_
    refine e_i2l (pc' := 105) dX10_digestGivers_104 rfl (by first | exact ⟨by omega, by omega⟩ | (have q1 : 0 ≤ σ.1 2 i ∧ σ.1 2 i ≤ 12 := ho.2.2.2.2.2.2.2.2.2.2.1 i (by omega) (by omega); exact ⟨by omega, by omega⟩) | exact hA _ (by omega) (by omega) | exact hB _ (by omega) (by omega) | exact hC _ (by omega) (by omega) | exact hD _ (by omega) (by omega)) ?_
    refine e_ladd (pc' := 106) dX10_digestGivers_105 rfl ?_
    refine e_lstore_n (pc' := 107) (L' := [some (rv 0), some (jv h0), none, some (jv ((31 * ((31 * ((31 * ((31 * ((31 * ((31 * ((31 * ((31 * ((31 * ((31 * h) + (Int64.ofInt (σ.1 2 i)))) + (Int64.ofInt (σ.1 4 ((i * 3) + 0))))) + (Int64.ofInt (σ.1 5 ((i * 3) + 0))))) + (Int64.ofInt (σ.1 6 ((i * 3) + 0))))) + (Int64.ofInt (σ.1 4 ((i * 3) + 1))))) + (Int64.ofInt (σ.1 5 ((i * 3) + 1))))) + (Int64.ofInt (σ.1 6 ((i * 3) + 1))))) + (Int64.ofInt (σ.1 4 ((i * 3) + 2))))) + (Int64.ofInt (σ.1 5 ((i * 3) + 2))))) + (Int64.ofInt (σ.1 6 ((i * 3) + 2))))), none, some (iv i), some (iv 2), some (iv ((i * 3) + 2))]) dX10_digestGivers_106 rfl (by decide) rfl ?_
    refine e_iinc (pc' := 110) (L' := [some (rv 0), some (jv h0), none, some (jv ((31 * ((31 * ((31 * ((31 * ((31 * ((31 * ((31 * ((31 * ((31 * ((31 * h) + (Int64.ofInt (σ.1 2 i)))) + (Int64.ofInt (σ.1 4 ((i * 3) + 0))))) + (Int64.ofInt (σ.1 5 ((i * 3) + 0))))) + (Int64.ofInt (σ.1 6 ((i * 3) + 0))))) + (Int64.ofInt (σ.1 4 ((i * 3) + 1))))) + (Int64.ofInt (σ.1 5 ((i * 3) + 1))))) + (Int64.ofInt (σ.1 6 ((i * 3) + 1))))) + (Int64.ofInt (σ.1 4 ((i * 3) + 2))))) + (Int64.ofInt (σ.1 5 ((i * 3) + 2))))) + (Int64.ofInt (σ.1 6 ((i * 3) + 2))))), none, some (iv i), some (iv 3), some (iv ((i * 3) + 2))]) dX10_digestGivers_107 rfl rfl (by decide) rfl ?_
    refine e_goto (pc' := 38) dX10_digestGivers_110 (by decide) ?_
    refine e_iload (pc' := 40) dX10_digestGivers_38 rfl rfl ?_
    refine e_iconst (pc' := 41) dX10_digestGivers_40 rfl ?_
    refine e_icmpI (pc' := 44) (t := 113) dX10_digestGivers_41 (by decide) rfl ⟨by omega, by omega⟩ ⟨by omega, by omega⟩ (fun _ => ?_) (fun c4_5 => absurd (show 3 ≤ (3 : Int) by decide) c4_5)
    refine e_iinc (pc' := 116) (L' := [some (rv 0), some (jv h0), none, some (jv ((31 * ((31 * ((31 * ((31 * ((31 * ((31 * ((31 * ((31 * ((31 * ((31 * h) + (Int64.ofInt (σ.1 2 i)))) + (Int64.ofInt (σ.1 4 ((i * 3) + 0))))) + (Int64.ofInt (σ.1 5 ((i * 3) + 0))))) + (Int64.ofInt (σ.1 6 ((i * 3) + 0))))) + (Int64.ofInt (σ.1 4 ((i * 3) + 1))))) + (Int64.ofInt (σ.1 5 ((i * 3) + 1))))) + (Int64.ofInt (σ.1 6 ((i * 3) + 1))))) + (Int64.ofInt (σ.1 4 ((i * 3) + 2))))) + (Int64.ofInt (σ.1 5 ((i * 3) + 2))))) + (Int64.ofInt (σ.1 6 ((i * 3) + 2))))), none, some (iv (i + 1)), some (iv 3), some (iv ((i * 3) + 2))]) dX10_digestGivers_113 rfl rfl (by decide) rfl ?_
    refine e_goto (pc' := 5) dX10_digestGivers_116 (by decide) ?_
    exact ih _ _ _ _ (by omega) (by omega) (by omega) (by rw [fdJI_s _ hi0, ← hh]; rfl)

set_option maxHeartbeats 4000000 in
set_option maxRecDepth 100000 in
theorem s_dgG {X : AX} {d : Nat} {σ : SG} (ho : ScOK σ 1) (h0 : Int64) : Ev X 0 0 d mX10_digestGivers 0 [some (rv 0), some (jv h0), none, none, none, none, none, none] [] σ (QJ (fun v σ' => σ' = σ ∧ v = fdJI (dgg (σ.1 2) (σ.1 4) (σ.1 5) (σ.1 6)) (σ.1 1 6) h0)) := by
  refine e_lload_n (pc' := 1) dX10_digestGivers_0 rfl rfl ?_
  refine e_lstore_n (pc' := 2) (L' := [some (rv 0), some (jv h0), none, some (jv h0), none, none, none, none]) dX10_digestGivers_1 rfl (by decide) rfl ?_
  refine e_iconst (pc' := 3) dX10_digestGivers_2 rfl ?_
  refine e_istore (pc' := 5) (L' := [some (rv 0), some (jv h0), none, some (jv h0), none, some (iv 0), none, none]) dX10_digestGivers_3 rfl (by decide) rfl ?_
  exact l_dgG ho h0 (σ.1 1 6 + 1).toNat _ _ _ _ (by omega) (by have := ho.1; omega) (by omega) rfl

set_option maxHeartbeats 4000000 in
set_option maxRecDepth 100000 in
theorem l_dgW {X : AX} {d : Nat} {σ : SG} (ho : ScOK σ 1) (hL : ∀ w, 0 ≤ w → w < 3 → rg (σ.1 40 w) ∧ rg (σ.1 41 w) ∧ rg (σ.1 42 w)) (h0 : Int64) : ∀ (k : Nat) (i : Int) (h : Int64), 0 ≤ i → i ≤ σ.1 1 7 → σ.1 1 7 - i < k → h = fdJI (dgw (σ.1 3) (σ.1 40) (σ.1 41) (σ.1 42)) i h0 → Ev X 0 0 d mX10_digestWorks 5 [some (rv 0), some (jv h0), none, some (jv h), none, some (iv i)] [] σ (QJ (fun v σ' => σ' = σ ∧ v = fdJI (dgw (σ.1 3) (σ.1 40) (σ.1 41) (σ.1 42)) (σ.1 1 7) h0)) := by
  intro k
  induction k with
  | zero => intros; omega
  | succ k ih =>
  intro i h hi0 hi1 hik hh
  have h6 := ho.1
  have h7 := ho.2.1
  have hA : ∀ j, 0 ≤ j → j < 15 → rg (σ.1 4 j) := fun j a b => by have q : 0 ≤ σ.1 4 j ∧ σ.1 4 j ≤ 200 := ho.2.2.2.2.2.2.2.2.1 j a b; exact ⟨by omega, by omega⟩
  have hB : ∀ j, 0 ≤ j → j < 15 → rg (σ.1 5 j) := fun j a b => by have q : 0 ≤ σ.1 5 j ∧ σ.1 5 j ≤ 50 := ho.2.2.2.2.2.2.2.2.2.1 j a b; exact ⟨by omega, by omega⟩
  have hC : ∀ j, 0 ≤ j → j < 15 → rg (σ.1 6 j) := fun j a b => by have q : 0 ≤ σ.1 6 j ∧ σ.1 6 j ≤ 12 := ho.2.2.2.2.2.2.1 j a b; exact ⟨by omega, by omega⟩
  have hD : ∀ j, 0 ≤ j → j < 3 → rg (σ.1 3 j) := fun j a b => by have q : 0 ≤ σ.1 3 j ∧ σ.1 3 j ≤ 60 := ho.2.2.2.2.2.2.2.1 j a b; exact ⟨by omega, by omega⟩
  refine e_iload (pc' := 7) dX10_digestWorks_5 rfl rfl ?_
  refine e_aload_n (pc' := 8) dX10_digestWorks_7 rfl rfl ?_
  refine e_getR (pc' := 11) dX10_digestWorks_8 rfl f_10_10 h_0 rfl ?_
  refine e_getI (pc' := 14) (v := (σ.1 1 7)) dX10_digestWorks_11 rfl f_10_101 h_1 rfl rfl ?_
  refine e_icmpI (pc' := 17) (t := 125) dX10_digestWorks_14 (by decide) rfl (by first | exact ⟨by omega, by omega⟩ | exact hD _ (by omega) (by omega) | exact (hL _ (by omega) (by omega)).1 | exact (hL _ (by omega) (by omega)).2.1 | exact (hL _ (by omega) (by omega)).2.2) (by first | exact ⟨by omega, by omega⟩ | exact hD _ (by omega) (by omega) | exact (hL _ (by omega) (by omega)).1 | exact (hL _ (by omega) (by omega)).2.1 | exact (hL _ (by omega) (by omega)).2.2) (fun (c2_1 : (σ.1 1 7) ≤ (i : Int)) => ?_) (fun (c2_1 : ¬ ((σ.1 1 7) ≤ (i : Int))) => ?_)
  · refine e_lload_n (pc' := 126) dX10_digestWorks_125 rfl rfl ?_
    exact e_lret dX10_digestWorks_126 rfl ⟨rfl, Nat.le_refl _⟩ ⟨_, rfl, rfl, by rw [show σ.1 1 7 = i by omega]; exact hh⟩
  · refine e_ldc2 (pc' := 20) dX10_digestWorks_17 rfl c_10_241 ?_
    refine e_lload_n (pc' := 21) dX10_digestWorks_20 rfl rfl ?_
    refine e_lmul (pc' := 22) dX10_digestWorks_21 rfl ?_
    refine e_aload_n (pc' := 23) dX10_digestWorks_22 rfl rfl ?_
    refine e_getR (pc' := 26) dX10_digestWorks_23 rfl f_10_10 h_0 rfl ?_
    refine e_getR (pc' := 29) dX10_digestWorks_26 rfl f_10_104 h_1 rfl ?_
    refine e_iload (pc' := 31) dX10_digestWorks_29 rfl rfl ?_
    refine e_iald (pc' := 32) (v := (σ.1 3 i)) dX10_digestWorks_31 rfl h_3 (by decide) (by omega) (by omega) rfl ?_
    refine e_i2l (pc' := 33) dX10_digestWorks_32 rfl (by first | exact ⟨by omega, by omega⟩ | exact hD _ (by omega) (by omega) | exact (hL _ (by omega) (by omega)).1 | exact (hL _ (by omega) (by omega)).2.1 | exact (hL _ (by omega) (by omega)).2.2) ?_
    refine e_ladd (pc' := 34) dX10_digestWorks_33 rfl ?_
    refine e_lstore_n (pc' := 35) (L' := [some (rv 0), some (jv h0), none, some (jv ((31 * h) + (Int64.ofInt (σ.1 3 i)))), none, some (iv i)]) dX10_digestWorks_34 rfl (by decide) rfl ?_
    refine e_ldc2 (pc' := 38) dX10_digestWorks_35 rfl c_10_241 ?_
    refine e_lload_n (pc' := 39) dX10_digestWorks_38 rfl rfl ?_
    refine e_lmul (pc' := 40) dX10_digestWorks_39 rfl ?_
    refine e_aload_n (pc' := 41) dX10_digestWorks_40 rfl rfl ?_
    refine e_getR (pc' := 44) dX10_digestWorks_41 rfl f_10_46 h_0 rfl ?_
    refine e_getR (pc' := 47) dX10_digestWorks_44 rfl f_10_165 h_39 rfl ?_
    refine e_iload (pc' := 49) dX10_digestWorks_47 rfl rfl ?_
    refine e_iald (pc' := 50) (v := (σ.1 40 i)) dX10_digestWorks_49 rfl h_40 (by decide) (by omega) (by omega) rfl ?_
    refine e_i2l (pc' := 51) dX10_digestWorks_50 rfl (by first | exact ⟨by omega, by omega⟩ | exact hD _ (by omega) (by omega) | exact (hL _ (by omega) (by omega)).1 | exact (hL _ (by omega) (by omega)).2.1 | exact (hL _ (by omega) (by omega)).2.2) ?_
    refine e_ladd (pc' := 52) dX10_digestWorks_51 rfl ?_
    refine e_lstore_n (pc' := 53) (L' := [some (rv 0), some (jv h0), none, some (jv ((31 * ((31 * h) + (Int64.ofInt (σ.1 3 i)))) + (Int64.ofInt (σ.1 40 i)))), none, some (iv i)]) dX10_digestWorks_52 rfl (by decide) rfl ?_
    refine e_ldc2 (pc' := 56) dX10_digestWorks_53 rfl c_10_241 ?_
    refine e_lload_n (pc' := 57) dX10_digestWorks_56 rfl rfl ?_
    refine e_lmul (pc' := 58) dX10_digestWorks_57 rfl ?_
    refine e_aload_n (pc' := 59) dX10_digestWorks_58 rfl rfl ?_
    refine e_getR (pc' := 62) dX10_digestWorks_59 rfl f_10_46 h_0 rfl ?_
    refine e_getR (pc' := 65) dX10_digestWorks_62 rfl f_10_168 h_39 rfl ?_
    refine e_iload (pc' := 67) dX10_digestWorks_65 rfl rfl ?_
    refine e_iald (pc' := 68) (v := (σ.1 41 i)) dX10_digestWorks_67 rfl h_41 (by decide) (by omega) (by omega) rfl ?_
    refine e_i2l (pc' := 69) dX10_digestWorks_68 rfl (by first | exact ⟨by omega, by omega⟩ | exact hD _ (by omega) (by omega) | exact (hL _ (by omega) (by omega)).1 | exact (hL _ (by omega) (by omega)).2.1 | exact (hL _ (by omega) (by omega)).2.2) ?_
    refine e_ladd (pc' := 70) dX10_digestWorks_69 rfl ?_
    refine e_lstore_n (pc' := 71) (L' := [some (rv 0), some (jv h0), none, some (jv ((31 * ((31 * ((31 * h) + (Int64.ofInt (σ.1 3 i)))) + (Int64.ofInt (σ.1 40 i)))) + (Int64.ofInt (σ.1 41 i)))), none, some (iv i)]) dX10_digestWorks_70 rfl (by decide) rfl ?_
    refine e_ldc2 (pc' := 74) dX10_digestWorks_71 rfl c_10_241 ?_
    refine e_lload_n (pc' := 75) dX10_digestWorks_74 rfl rfl ?_
    refine e_lmul (pc' := 76) dX10_digestWorks_75 rfl ?_
    refine e_aload_n (pc' := 77) dX10_digestWorks_76 rfl rfl ?_
    refine e_getR (pc' := 80) dX10_digestWorks_77 rfl f_10_46 h_0 rfl ?_
    refine e_getR (pc' := 83) dX10_digestWorks_80 rfl f_10_171 h_39 rfl ?_
    refine e_iload (pc' := 85) dX10_digestWorks_83 rfl rfl ?_
    refine e_iald (pc' := 86) (v := (σ.1 42 i)) dX10_digestWorks_85 rfl h_42 (by decide) (by omega) (by omega) rfl ?_
    refine e_i2l (pc' := 87) dX10_digestWorks_86 rfl (by first | exact ⟨by omega, by omega⟩ | exact hD _ (by omega) (by omega) | exact (hL _ (by omega) (by omega)).1 | exact (hL _ (by omega) (by omega)).2.1 | exact (hL _ (by omega) (by omega)).2.2) ?_
    refine e_ladd (pc' := 88) dX10_digestWorks_87 rfl ?_
    refine e_lstore_n (pc' := 89) (L' := [some (rv 0), some (jv h0), none, some (jv ((31 * ((31 * ((31 * ((31 * h) + (Int64.ofInt (σ.1 3 i)))) + (Int64.ofInt (σ.1 40 i)))) + (Int64.ofInt (σ.1 41 i)))) + (Int64.ofInt (σ.1 42 i)))), none, some (iv i)]) dX10_digestWorks_88 rfl (by decide) rfl ?_
    refine e_ldc2 (pc' := 92) dX10_digestWorks_89 rfl c_10_241 ?_
    refine e_lload_n (pc' := 93) dX10_digestWorks_92 rfl rfl ?_
    refine e_lmul (pc' := 94) dX10_digestWorks_93 rfl ?_
    refine e_aload_n (pc' := 95) dX10_digestWorks_94 rfl rfl ?_
    refine e_getR (pc' := 98) dX10_digestWorks_95 rfl f_10_46 h_0 rfl ?_
    refine e_getR (pc' := 101) dX10_digestWorks_98 rfl f_10_165 h_39 rfl ?_
    refine e_iload (pc' := 103) dX10_digestWorks_101 rfl rfl ?_
    refine e_iald (pc' := 104) (v := (σ.1 40 i)) dX10_digestWorks_103 rfl h_40 (by decide) (by omega) (by omega) rfl ?_
    refine e_i2l (pc' := 105) dX10_digestWorks_104 rfl (by first | exact ⟨by omega, by omega⟩ | exact hD _ (by omega) (by omega) | exact (hL _ (by omega) (by omega)).1 | exact (hL _ (by omega) (by omega)).2.1 | exact (hL _ (by omega) (by omega)).2.2) ?_
    refine e_ladd (pc' := 106) dX10_digestWorks_105 rfl ?_
    refine e_aload_n (pc' := 107) dX10_digestWorks_106 rfl rfl ?_
    refine e_getR (pc' := 110) dX10_digestWorks_107 rfl f_10_46 h_0 rfl ?_
    refine e_getR (pc' := 113) dX10_digestWorks_110 rfl f_10_171 h_39 rfl ?_
    refine e_iload (pc' := 115) dX10_digestWorks_113 rfl rfl ?_
    refine e_iald (pc' := 116) (v := (σ.1 42 i)) dX10_digestWorks_115 rfl h_42 (by decide) (by omega) (by omega) rfl ?_
    refine e_i2l (pc' := 117) dX10_digestWorks_116 rfl (by first | exact ⟨by omega, by omega⟩ | exact hD _ (by omega) (by omega) | exact (hL _ (by omega) (by omega)).1 | exact (hL _ (by omega) (by omega)).2.1 | exact (hL _ (by omega) (by omega)).2.2) ?_
    refine e_ladd (pc' := 118) dX10_digestWorks_117 rfl ?_
    refine e_lstore_n (pc' := 119) (L' := [some (rv 0), some (jv h0), none, some (jv (((31 * ((31 * ((31 * ((31 * ((31 * h) + (Int64.ofInt (σ.1 3 i)))) + (Int64.ofInt (σ.1 40 i)))) + (Int64.ofInt (σ.1 41 i)))) + (Int64.ofInt (σ.1 42 i)))) + (Int64.ofInt (σ.1 40 i))) + (Int64.ofInt (σ.1 42 i)))), none, some (iv i)]) dX10_digestWorks_118 rfl (by decide) rfl ?_
    refine e_iinc (pc' := 122) (L' := [some (rv 0), some (jv h0), none, some (jv (((31 * ((31 * ((31 * ((31 * ((31 * h) + (Int64.ofInt (σ.1 3 i)))) + (Int64.ofInt (σ.1 40 i)))) + (Int64.ofInt (σ.1 41 i)))) + (Int64.ofInt (σ.1 42 i)))) + (Int64.ofInt (σ.1 40 i))) + (Int64.ofInt (σ.1 42 i)))), none, some (iv (i + 1))]) dX10_digestWorks_119 rfl rfl (by decide) rfl ?_
    refine e_goto (pc' := 5) dX10_digestWorks_122 (by decide) ?_
    exact ih _ _ (by omega) (by omega) (by omega) (by rw [fdJI_s _ hi0, ← hh]; unfold dgw hj; rw [Int64.mul_comm _ 31])

set_option maxHeartbeats 4000000 in
set_option maxRecDepth 100000 in
theorem s_dgW {X : AX} {d : Nat} {σ : SG} (ho : ScOK σ 1) (hL : ∀ w, 0 ≤ w → w < 3 → rg (σ.1 40 w) ∧ rg (σ.1 41 w) ∧ rg (σ.1 42 w)) (h0 : Int64) : Ev X 0 0 d mX10_digestWorks 0 [some (rv 0), some (jv h0), none, none, none, none] [] σ (QJ (fun v σ' => σ' = σ ∧ v = fdJI (dgw (σ.1 3) (σ.1 40) (σ.1 41) (σ.1 42)) (σ.1 1 7) h0)) := by
  refine e_lload_n (pc' := 1) dX10_digestWorks_0 rfl rfl ?_
  refine e_lstore_n (pc' := 2) (L' := [some (rv 0), some (jv h0), none, some (jv h0), none, none]) dX10_digestWorks_1 rfl (by decide) rfl ?_
  refine e_iconst (pc' := 3) dX10_digestWorks_2 rfl ?_
  refine e_istore (pc' := 5) (L' := [some (rv 0), some (jv h0), none, some (jv h0), none, some (iv 0)]) dX10_digestWorks_3 rfl (by decide) rfl ?_
  exact l_dgW ho hL h0 (σ.1 1 7 + 1).toNat _ _ (by omega) (by have := ho.2.1; omega) (by omega) rfl

set_option maxHeartbeats 4000000 in
set_option maxRecDepth 100000 in
theorem l_dgR_8 {X : AX} {d : Nat} {σ : SG} {Q : Option AV → SG → Prop} (hn : 0 ≤ σ.1 8 2 ∧ σ.1 8 2 ≤ 40) (hT : ∀ j, 0 ≤ j → j < 40 → chr7 (σ.1 9 j)) (h0 h1 : Int64) (hK : ∀ y7, Ev X 0 0 d mX10_digestRules 71 [some (rv 0), some (jv h0), none, some (jv (fdJI (fun k h => hj h (σ.1 9 k)) (σ.1 8 2) h1)), none, some (iv 0), some (rv 8), y7] [] σ Q) : ∀ (k : Nat) (j : Int) (h : Int64), 0 ≤ j → j ≤ σ.1 8 2 → σ.1 8 2 - j < k → h = fdJI (fun k h => hj h (σ.1 9 k)) j h1 → Ev X 0 0 d mX10_digestRules 39 [some (rv 0), some (jv h0), none, some (jv h), none, some (iv 0), some (rv 8), some (iv j)] [] σ Q := by
  intro k
  induction k with
  | zero => intros; omega
  | succ k ih =>
  intro j h hj0 hj1 hjk hh
  refine e_iload (pc' := 41) dX10_digestRules_39 rfl rfl ?_
  refine e_aload (pc' := 43) dX10_digestRules_41 rfl rfl ?_
  refine e_getI (pc' := 46) (v := (σ.1 8 2)) dX10_digestRules_43 rfl f_10_137 h_8 rfl rfl ?_
  refine e_icmpI (pc' := 49) (t := 71) dX10_digestRules_46 (by decide) rfl (by first | exact ⟨by omega, by omega⟩ | (have q := hT j (by omega) (by omega); exact ⟨by have := q.1; omega, by have := q.2; omega⟩)) (by first | exact ⟨by omega, by omega⟩ | (have q := hT j (by omega) (by omega); exact ⟨by have := q.1; omega, by have := q.2; omega⟩)) (fun (c2_1 : (σ.1 8 2) ≤ (j : Int)) => ?_) (fun (c2_1 : ¬ ((σ.1 8 2) ≤ (j : Int))) => ?_)
  · have e : σ.1 8 2 = j := by omega
    rw [e, ← hh] at hK
    exact hK _
  · refine e_ldc2 (pc' := 52) dX10_digestRules_49 rfl c_10_241 ?_
    refine e_lload_n (pc' := 53) dX10_digestRules_52 rfl rfl ?_
    refine e_lmul (pc' := 54) dX10_digestRules_53 rfl ?_
    refine e_aload (pc' := 56) dX10_digestRules_54 rfl rfl ?_
    refine e_getR (pc' := 59) dX10_digestRules_56 rfl f_10_142 h_8 rfl ?_
    refine e_iload (pc' := 61) dX10_digestRules_59 rfl rfl ?_
    refine e_iald (pc' := 62) (v := (σ.1 9 j)) dX10_digestRules_61 rfl h_9 (by decide) (by omega) (by omega) rfl ?_
    refine e_i2l (pc' := 63) dX10_digestRules_62 rfl (by first | exact ⟨by omega, by omega⟩ | (have q := hT j (by omega) (by omega); exact ⟨by have := q.1; omega, by have := q.2; omega⟩)) ?_
    refine e_ladd (pc' := 64) dX10_digestRules_63 rfl ?_
    refine e_lstore_n (pc' := 65) (L' := [some (rv 0), some (jv h0), none, some (jv ((31 * h) + (Int64.ofInt (σ.1 9 j)))), none, some (iv 0), some (rv 8), some (iv j)]) dX10_digestRules_64 rfl (by decide) rfl ?_
    refine e_iinc (pc' := 68) (L' := [some (rv 0), some (jv h0), none, some (jv ((31 * h) + (Int64.ofInt (σ.1 9 j)))), none, some (iv 0), some (rv 8), some (iv (j + 1))]) dX10_digestRules_65 rfl rfl (by decide) rfl ?_
    refine e_goto (pc' := 39) dX10_digestRules_68 (by decide) ?_
    exact ih _ _ (by omega) (by omega) (by omega) (by rw [fdJI_s _ hj0, ← hh]; rfl)

set_option maxHeartbeats 4000000 in
set_option maxRecDepth 100000 in
theorem l_dgR_11 {X : AX} {d : Nat} {σ : SG} {Q : Option AV → SG → Prop} (hn : 0 ≤ σ.1 11 2 ∧ σ.1 11 2 ≤ 40) (hT : ∀ j, 0 ≤ j → j < 40 → chr7 (σ.1 12 j)) (h0 h1 : Int64) (hK : ∀ y7, Ev X 0 0 d mX10_digestRules 71 [some (rv 0), some (jv h0), none, some (jv (fdJI (fun k h => hj h (σ.1 12 k)) (σ.1 11 2) h1)), none, some (iv 1), some (rv 11), y7] [] σ Q) : ∀ (k : Nat) (j : Int) (h : Int64), 0 ≤ j → j ≤ σ.1 11 2 → σ.1 11 2 - j < k → h = fdJI (fun k h => hj h (σ.1 12 k)) j h1 → Ev X 0 0 d mX10_digestRules 39 [some (rv 0), some (jv h0), none, some (jv h), none, some (iv 1), some (rv 11), some (iv j)] [] σ Q := by
  intro k
  induction k with
  | zero => intros; omega
  | succ k ih =>
  intro j h hj0 hj1 hjk hh
  refine e_iload (pc' := 41) dX10_digestRules_39 rfl rfl ?_
  refine e_aload (pc' := 43) dX10_digestRules_41 rfl rfl ?_
  refine e_getI (pc' := 46) (v := (σ.1 11 2)) dX10_digestRules_43 rfl f_10_137 h_11 rfl rfl ?_
  refine e_icmpI (pc' := 49) (t := 71) dX10_digestRules_46 (by decide) rfl (by first | exact ⟨by omega, by omega⟩ | (have q := hT j (by omega) (by omega); exact ⟨by have := q.1; omega, by have := q.2; omega⟩)) (by first | exact ⟨by omega, by omega⟩ | (have q := hT j (by omega) (by omega); exact ⟨by have := q.1; omega, by have := q.2; omega⟩)) (fun (c2_1 : (σ.1 11 2) ≤ (j : Int)) => ?_) (fun (c2_1 : ¬ ((σ.1 11 2) ≤ (j : Int))) => ?_)
  · have e : σ.1 11 2 = j := by omega
    rw [e, ← hh] at hK
    exact hK _
  · refine e_ldc2 (pc' := 52) dX10_digestRules_49 rfl c_10_241 ?_
    refine e_lload_n (pc' := 53) dX10_digestRules_52 rfl rfl ?_
    refine e_lmul (pc' := 54) dX10_digestRules_53 rfl ?_
    refine e_aload (pc' := 56) dX10_digestRules_54 rfl rfl ?_
    refine e_getR (pc' := 59) dX10_digestRules_56 rfl f_10_142 h_11 rfl ?_
    refine e_iload (pc' := 61) dX10_digestRules_59 rfl rfl ?_
    refine e_iald (pc' := 62) (v := (σ.1 12 j)) dX10_digestRules_61 rfl h_12 (by decide) (by omega) (by omega) rfl ?_
    refine e_i2l (pc' := 63) dX10_digestRules_62 rfl (by first | exact ⟨by omega, by omega⟩ | (have q := hT j (by omega) (by omega); exact ⟨by have := q.1; omega, by have := q.2; omega⟩)) ?_
    refine e_ladd (pc' := 64) dX10_digestRules_63 rfl ?_
    refine e_lstore_n (pc' := 65) (L' := [some (rv 0), some (jv h0), none, some (jv ((31 * h) + (Int64.ofInt (σ.1 12 j)))), none, some (iv 1), some (rv 11), some (iv j)]) dX10_digestRules_64 rfl (by decide) rfl ?_
    refine e_iinc (pc' := 68) (L' := [some (rv 0), some (jv h0), none, some (jv ((31 * h) + (Int64.ofInt (σ.1 12 j)))), none, some (iv 1), some (rv 11), some (iv (j + 1))]) dX10_digestRules_65 rfl rfl (by decide) rfl ?_
    refine e_goto (pc' := 39) dX10_digestRules_68 (by decide) ?_
    exact ih _ _ (by omega) (by omega) (by omega) (by rw [fdJI_s _ hj0, ← hh]; rfl)

set_option maxHeartbeats 4000000 in
set_option maxRecDepth 100000 in
theorem l_dgR_14 {X : AX} {d : Nat} {σ : SG} {Q : Option AV → SG → Prop} (hn : 0 ≤ σ.1 14 2 ∧ σ.1 14 2 ≤ 40) (hT : ∀ j, 0 ≤ j → j < 40 → chr7 (σ.1 15 j)) (h0 h1 : Int64) (hK : ∀ y7, Ev X 0 0 d mX10_digestRules 71 [some (rv 0), some (jv h0), none, some (jv (fdJI (fun k h => hj h (σ.1 15 k)) (σ.1 14 2) h1)), none, some (iv 2), some (rv 14), y7] [] σ Q) : ∀ (k : Nat) (j : Int) (h : Int64), 0 ≤ j → j ≤ σ.1 14 2 → σ.1 14 2 - j < k → h = fdJI (fun k h => hj h (σ.1 15 k)) j h1 → Ev X 0 0 d mX10_digestRules 39 [some (rv 0), some (jv h0), none, some (jv h), none, some (iv 2), some (rv 14), some (iv j)] [] σ Q := by
  intro k
  induction k with
  | zero => intros; omega
  | succ k ih =>
  intro j h hj0 hj1 hjk hh
  refine e_iload (pc' := 41) dX10_digestRules_39 rfl rfl ?_
  refine e_aload (pc' := 43) dX10_digestRules_41 rfl rfl ?_
  refine e_getI (pc' := 46) (v := (σ.1 14 2)) dX10_digestRules_43 rfl f_10_137 h_14 rfl rfl ?_
  refine e_icmpI (pc' := 49) (t := 71) dX10_digestRules_46 (by decide) rfl (by first | exact ⟨by omega, by omega⟩ | (have q := hT j (by omega) (by omega); exact ⟨by have := q.1; omega, by have := q.2; omega⟩)) (by first | exact ⟨by omega, by omega⟩ | (have q := hT j (by omega) (by omega); exact ⟨by have := q.1; omega, by have := q.2; omega⟩)) (fun (c2_1 : (σ.1 14 2) ≤ (j : Int)) => ?_) (fun (c2_1 : ¬ ((σ.1 14 2) ≤ (j : Int))) => ?_)
  · have e : σ.1 14 2 = j := by omega
    rw [e, ← hh] at hK
    exact hK _
  · refine e_ldc2 (pc' := 52) dX10_digestRules_49 rfl c_10_241 ?_
    refine e_lload_n (pc' := 53) dX10_digestRules_52 rfl rfl ?_
    refine e_lmul (pc' := 54) dX10_digestRules_53 rfl ?_
    refine e_aload (pc' := 56) dX10_digestRules_54 rfl rfl ?_
    refine e_getR (pc' := 59) dX10_digestRules_56 rfl f_10_142 h_14 rfl ?_
    refine e_iload (pc' := 61) dX10_digestRules_59 rfl rfl ?_
    refine e_iald (pc' := 62) (v := (σ.1 15 j)) dX10_digestRules_61 rfl h_15 (by decide) (by omega) (by omega) rfl ?_
    refine e_i2l (pc' := 63) dX10_digestRules_62 rfl (by first | exact ⟨by omega, by omega⟩ | (have q := hT j (by omega) (by omega); exact ⟨by have := q.1; omega, by have := q.2; omega⟩)) ?_
    refine e_ladd (pc' := 64) dX10_digestRules_63 rfl ?_
    refine e_lstore_n (pc' := 65) (L' := [some (rv 0), some (jv h0), none, some (jv ((31 * h) + (Int64.ofInt (σ.1 15 j)))), none, some (iv 2), some (rv 14), some (iv j)]) dX10_digestRules_64 rfl (by decide) rfl ?_
    refine e_iinc (pc' := 68) (L' := [some (rv 0), some (jv h0), none, some (jv ((31 * h) + (Int64.ofInt (σ.1 15 j)))), none, some (iv 2), some (rv 14), some (iv (j + 1))]) dX10_digestRules_65 rfl rfl (by decide) rfl ?_
    refine e_goto (pc' := 39) dX10_digestRules_68 (by decide) ?_
    exact ih _ _ (by omega) (by omega) (by omega) (by rw [fdJI_s _ hj0, ← hh]; rfl)

set_option maxHeartbeats 4000000 in
set_option maxRecDepth 100000 in
theorem s_dgR {X : AX} {d : Nat} {σ : SG} (hn8 : 0 ≤ σ.1 8 2 ∧ σ.1 8 2 ≤ 40) (hT8 : ∀ j, 0 ≤ j → j < 40 → chr7 (σ.1 9 j)) (hn11 : 0 ≤ σ.1 11 2 ∧ σ.1 11 2 ≤ 40) (hT11 : ∀ j, 0 ≤ j → j < 40 → chr7 (σ.1 12 j)) (hn14 : 0 ≤ σ.1 14 2 ∧ σ.1 14 2 ≤ 40) (hT14 : ∀ j, 0 ≤ j → j < 40 → chr7 (σ.1 15 j)) (h0 : Int64) : Ev X 0 0 d mX10_digestRules 0 [some (rv 0), some (jv h0), none, none, none, none, none, none] [] σ (QJ (fun v σ' => σ' = σ ∧ v = dgr (σ.1 14 2) (σ.1 15) (dgr (σ.1 11 2) (σ.1 12) (dgr (σ.1 8 2) (σ.1 9) h0)))) := by
  refine e_lload_n (pc' := 1) dX10_digestRules_0 rfl rfl ?_
  refine e_lstore_n (pc' := 2) (L' := [some (rv 0), some (jv h0), none, some (jv h0), none, none, none, none]) dX10_digestRules_1 rfl (by decide) rfl ?_
  refine e_iconst (pc' := 3) dX10_digestRules_2 rfl ?_
  refine e_istore (pc' := 5) (L' := [some (rv 0), some (jv h0), none, some (jv h0), none, some (iv 0), none, none]) dX10_digestRules_3 rfl (by decide) rfl ?_
  refine e_iload (pc' := 7) dX10_digestRules_5 rfl rfl ?_
  refine e_iconst (pc' := 8) dX10_digestRules_7 rfl ?_
  refine e_icmpI (pc' := 11) (t := 77) dX10_digestRules_8 (by decide) rfl ⟨by omega, by omega⟩ ⟨by omega, by omega⟩ (fun c2_1 => absurd (show 3 ≤ (0 : Int) from c2_1) (by decide)) (fun _ => ?_)
  refine e_aload_n (pc' := 12) dX10_digestRules_11 rfl rfl ?_
  refine e_getR (pc' := 15) dX10_digestRules_12 rfl f_10_10 h_0 rfl ?_
  refine e_getR (pc' := 18) dX10_digestRules_15 rfl f_10_133 h_1 rfl ?_
  refine e_iload (pc' := 20) dX10_digestRules_18 rfl rfl ?_
  refine e_aald (pc' := 21) (k := 8) dX10_digestRules_20 rfl h_7 (by decide) (by decide) (by omega) (by omega) rfl ?_
  refine e_astore (pc' := 23) (L' := [some (rv 0), some (jv h0), none, some (jv h0), none, some (iv 0), some (rv 8), none]) dX10_digestRules_21 rfl (by decide) rfl ?_
  refine e_ldc2 (pc' := 26) dX10_digestRules_23 rfl c_10_241 ?_
  refine e_lload_n (pc' := 27) dX10_digestRules_26 rfl rfl ?_
  refine e_lmul (pc' := 28) dX10_digestRules_27 rfl ?_
  refine e_aload (pc' := 30) dX10_digestRules_28 rfl rfl ?_
  refine e_getI (pc' := 33) (v := (σ.1 8 2)) dX10_digestRules_30 rfl f_10_137 h_8 rfl rfl ?_
  refine e_i2l (pc' := 34) dX10_digestRules_33 rfl ⟨by omega, by omega⟩ ?_
  refine e_ladd (pc' := 35) dX10_digestRules_34 rfl ?_
  refine e_lstore_n (pc' := 36) (L' := [some (rv 0), some (jv h0), none, some (jv ((31 * h0) + (Int64.ofInt (σ.1 8 2)))), none, some (iv 0), some (rv 8), none]) dX10_digestRules_35 rfl (by decide) rfl ?_
  refine e_iconst (pc' := 37) dX10_digestRules_36 rfl ?_
  refine e_istore (pc' := 39) (L' := [some (rv 0), some (jv h0), none, some (jv ((31 * h0) + (Int64.ofInt (σ.1 8 2)))), none, some (iv 0), some (rv 8), some (iv 0)]) dX10_digestRules_37 rfl (by decide) rfl ?_
  refine l_dgR_8 hn8 hT8 h0 ((31 * h0) + (Int64.ofInt (σ.1 8 2))) (fun y7 => ?_) (σ.1 8 2 + 1).toNat 0 _ (by omega) (by omega) (by omega) rfl
  refine e_iinc (pc' := 74) (L' := [some (rv 0), some (jv h0), none, some (jv (fdJI (fun k h => hj h (σ.1 9 k)) (σ.1 8 2) ((31 * h0) + (Int64.ofInt (σ.1 8 2))))), none, some (iv 1), some (rv 8), y7]) dX10_digestRules_71 rfl rfl (by decide) rfl ?_
  refine e_goto (pc' := 5) dX10_digestRules_74 (by decide) ?_
  refine e_iload (pc' := 7) dX10_digestRules_5 rfl rfl ?_
  refine e_iconst (pc' := 8) dX10_digestRules_7 rfl ?_
  refine e_icmpI (pc' := 11) (t := 77) dX10_digestRules_8 (by decide) rfl ⟨by omega, by omega⟩ ⟨by omega, by omega⟩ (fun c2_1 => absurd (show 3 ≤ (1 : Int) from c2_1) (by decide)) (fun _ => ?_)
  refine e_aload_n (pc' := 12) dX10_digestRules_11 rfl rfl ?_
  refine e_getR (pc' := 15) dX10_digestRules_12 rfl f_10_10 h_0 rfl ?_
  refine e_getR (pc' := 18) dX10_digestRules_15 rfl f_10_133 h_1 rfl ?_
  refine e_iload (pc' := 20) dX10_digestRules_18 rfl rfl ?_
  refine e_aald (pc' := 21) (k := 11) dX10_digestRules_20 rfl h_7 (by decide) (by decide) (by omega) (by omega) rfl ?_
  refine e_astore (pc' := 23) (L' := [some (rv 0), some (jv h0), none, some (jv (fdJI (fun k h => hj h (σ.1 9 k)) (σ.1 8 2) ((31 * h0) + (Int64.ofInt (σ.1 8 2))))), none, some (iv 1), some (rv 11), y7]) dX10_digestRules_21 rfl (by decide) rfl ?_
  refine e_ldc2 (pc' := 26) dX10_digestRules_23 rfl c_10_241 ?_
  refine e_lload_n (pc' := 27) dX10_digestRules_26 rfl rfl ?_
  refine e_lmul (pc' := 28) dX10_digestRules_27 rfl ?_
  refine e_aload (pc' := 30) dX10_digestRules_28 rfl rfl ?_
  refine e_getI (pc' := 33) (v := (σ.1 11 2)) dX10_digestRules_30 rfl f_10_137 h_11 rfl rfl ?_
  refine e_i2l (pc' := 34) dX10_digestRules_33 rfl ⟨by omega, by omega⟩ ?_
  refine e_ladd (pc' := 35) dX10_digestRules_34 rfl ?_
  refine e_lstore_n (pc' := 36) (L' := [some (rv 0), some (jv h0), none, some (jv ((31 * (fdJI (fun k h => hj h (σ.1 9 k)) (σ.1 8 2) ((31 * h0) + (Int64.ofInt (σ.1 8 2))))) + (Int64.ofInt (σ.1 11 2)))), none, some (iv 1), some (rv 11), y7]) dX10_digestRules_35 rfl (by decide) rfl ?_
  refine e_iconst (pc' := 37) dX10_digestRules_36 rfl ?_
  refine e_istore (pc' := 39) (L' := [some (rv 0), some (jv h0), none, some (jv ((31 * (fdJI (fun k h => hj h (σ.1 9 k)) (σ.1 8 2) ((31 * h0) + (Int64.ofInt (σ.1 8 2))))) + (Int64.ofInt (σ.1 11 2)))), none, some (iv 1), some (rv 11), some (iv 0)]) dX10_digestRules_37 rfl (by decide) rfl ?_
  refine l_dgR_11 hn11 hT11 h0 ((31 * (fdJI (fun k h => hj h (σ.1 9 k)) (σ.1 8 2) ((31 * h0) + (Int64.ofInt (σ.1 8 2))))) + (Int64.ofInt (σ.1 11 2))) (fun y7 => ?_) (σ.1 11 2 + 1).toNat 0 _ (by omega) (by omega) (by omega) rfl
  refine e_iinc (pc' := 74) (L' := [some (rv 0), some (jv h0), none, some (jv (fdJI (fun k h => hj h (σ.1 12 k)) (σ.1 11 2) ((31 * (fdJI (fun k h => hj h (σ.1 9 k)) (σ.1 8 2) ((31 * h0) + (Int64.ofInt (σ.1 8 2))))) + (Int64.ofInt (σ.1 11 2))))), none, some (iv 2), some (rv 11), y7]) dX10_digestRules_71 rfl rfl (by decide) rfl ?_
  refine e_goto (pc' := 5) dX10_digestRules_74 (by decide) ?_
  refine e_iload (pc' := 7) dX10_digestRules_5 rfl rfl ?_
  refine e_iconst (pc' := 8) dX10_digestRules_7 rfl ?_
  refine e_icmpI (pc' := 11) (t := 77) dX10_digestRules_8 (by decide) rfl ⟨by omega, by omega⟩ ⟨by omega, by omega⟩ (fun c2_1 => absurd (show 3 ≤ (2 : Int) from c2_1) (by decide)) (fun _ => ?_)
  refine e_aload_n (pc' := 12) dX10_digestRules_11 rfl rfl ?_
  refine e_getR (pc' := 15) dX10_digestRules_12 rfl f_10_10 h_0 rfl ?_
  refine e_getR (pc' := 18) dX10_digestRules_15 rfl f_10_133 h_1 rfl ?_
  refine e_iload (pc' := 20) dX10_digestRules_18 rfl rfl ?_
  refine e_aald (pc' := 21) (k := 14) dX10_digestRules_20 rfl h_7 (by decide) (by decide) (by omega) (by omega) rfl ?_
  refine e_astore (pc' := 23) (L' := [some (rv 0), some (jv h0), none, some (jv (fdJI (fun k h => hj h (σ.1 12 k)) (σ.1 11 2) ((31 * (fdJI (fun k h => hj h (σ.1 9 k)) (σ.1 8 2) ((31 * h0) + (Int64.ofInt (σ.1 8 2))))) + (Int64.ofInt (σ.1 11 2))))), none, some (iv 2), some (rv 14), y7]) dX10_digestRules_21 rfl (by decide) rfl ?_
  refine e_ldc2 (pc' := 26) dX10_digestRules_23 rfl c_10_241 ?_
  refine e_lload_n (pc' := 27) dX10_digestRules_26 rfl rfl ?_
  refine e_lmul (pc' := 28) dX10_digestRules_27 rfl ?_
  refine e_aload (pc' := 30) dX10_digestRules_28 rfl rfl ?_
  refine e_getI (pc' := 33) (v := (σ.1 14 2)) dX10_digestRules_30 rfl f_10_137 h_14 rfl rfl ?_
  refine e_i2l (pc' := 34) dX10_digestRules_33 rfl ⟨by omega, by omega⟩ ?_
  refine e_ladd (pc' := 35) dX10_digestRules_34 rfl ?_
  refine e_lstore_n (pc' := 36) (L' := [some (rv 0), some (jv h0), none, some (jv ((31 * (fdJI (fun k h => hj h (σ.1 12 k)) (σ.1 11 2) ((31 * (fdJI (fun k h => hj h (σ.1 9 k)) (σ.1 8 2) ((31 * h0) + (Int64.ofInt (σ.1 8 2))))) + (Int64.ofInt (σ.1 11 2))))) + (Int64.ofInt (σ.1 14 2)))), none, some (iv 2), some (rv 14), y7]) dX10_digestRules_35 rfl (by decide) rfl ?_
  refine e_iconst (pc' := 37) dX10_digestRules_36 rfl ?_
  refine e_istore (pc' := 39) (L' := [some (rv 0), some (jv h0), none, some (jv ((31 * (fdJI (fun k h => hj h (σ.1 12 k)) (σ.1 11 2) ((31 * (fdJI (fun k h => hj h (σ.1 9 k)) (σ.1 8 2) ((31 * h0) + (Int64.ofInt (σ.1 8 2))))) + (Int64.ofInt (σ.1 11 2))))) + (Int64.ofInt (σ.1 14 2)))), none, some (iv 2), some (rv 14), some (iv 0)]) dX10_digestRules_37 rfl (by decide) rfl ?_
  refine l_dgR_14 hn14 hT14 h0 ((31 * (fdJI (fun k h => hj h (σ.1 12 k)) (σ.1 11 2) ((31 * (fdJI (fun k h => hj h (σ.1 9 k)) (σ.1 8 2) ((31 * h0) + (Int64.ofInt (σ.1 8 2))))) + (Int64.ofInt (σ.1 11 2))))) + (Int64.ofInt (σ.1 14 2))) (fun y7 => ?_) (σ.1 14 2 + 1).toNat 0 _ (by omega) (by omega) (by omega) rfl
  refine e_iinc (pc' := 74) (L' := [some (rv 0), some (jv h0), none, some (jv (fdJI (fun k h => hj h (σ.1 15 k)) (σ.1 14 2) ((31 * (fdJI (fun k h => hj h (σ.1 12 k)) (σ.1 11 2) ((31 * (fdJI (fun k h => hj h (σ.1 9 k)) (σ.1 8 2) ((31 * h0) + (Int64.ofInt (σ.1 8 2))))) + (Int64.ofInt (σ.1 11 2))))) + (Int64.ofInt (σ.1 14 2))))), none, some (iv 3), some (rv 14), y7]) dX10_digestRules_71 rfl rfl (by decide) rfl ?_
  refine e_goto (pc' := 5) dX10_digestRules_74 (by decide) ?_
  refine e_iload (pc' := 7) dX10_digestRules_5 rfl rfl ?_
  refine e_iconst (pc' := 8) dX10_digestRules_7 rfl ?_
  refine e_icmpI (pc' := 11) (t := 77) dX10_digestRules_8 (by decide) rfl ⟨by omega, by omega⟩ ⟨by omega, by omega⟩ (fun _ => ?_) (fun c2_1 => absurd (show 3 ≤ (3 : Int) by decide) c2_1)
  refine e_lload_n (pc' := 78) dX10_digestRules_77 rfl rfl ?_
  exact e_lret dX10_digestRules_78 rfl ⟨rfl, Nat.le_refl _⟩ ⟨_, rfl, rfl, rfl⟩

def dgD (σ : SG) : Int64 := hj (dgr (σ.1 14 2) (σ.1 15) (dgr (σ.1 11 2) (σ.1 12) (dgr (σ.1 8 2) (σ.1 9) (hj (hj (hj (hj (fdJI (dgw (σ.1 3) (gfS σ 1) (wdS σ 1) (adS (σ.1 1 11) (σ.1 1 10) (wdS σ 1))) (σ.1 1 7) (fdJI (dgg (σ.1 2) (σ.1 4) (σ.1 5) (σ.1 6)) (σ.1 1 6) (hj (hj (hj (hj 461 (σ.1 1 6)) (σ.1 1 7)) (smI (fun g => gv (σ.1 6) g) (σ.1 1 6))) (smI (σ.1 2) (σ.1 1 6))))) (σ.1 1 8)) (σ.1 1 9)) (σ.1 1 10)) (σ.1 1 11))))) (smI (fun g => bfS σ 1 g) (σ.1 1 6))
theorem fdJ_cg {f g : Int → Int64 → Int64} : ∀ (n : Nat) (h : Int64), (∀ i : Int, 0 ≤ i → i < (n : Int) → ∀ h, f i h = g i h) → fdJ f n h = fdJ g n h
  | 0, _, _ => rfl
  | n + 1, h, e => by
    show f n (fdJ f n h) = g n (fdJ g n h)
    rw [fdJ_cg n h (fun i a b => e i a (by omega)), e n (by omega) (by omega)]
theorem fdJI_cg {f g : Int → Int64 → Int64} {i : Int} (h : Int64) (e : ∀ j : Int, 0 ≤ j → j < i → ∀ h, f j h = g j h) : fdJI f i h = fdJI g i h := fdJ_cg _ h (fun j a b => e j a (by omega))
theorem smI_rg {f : Int → Int} {M : Int} (hM : 0 ≤ M) : ∀ (n : Nat), (∀ i : Int, 0 ≤ i → i < (n : Int) → 0 ≤ f i ∧ f i ≤ M) → 0 ≤ sm f n ∧ sm f n ≤ M * n
  | 0, _ => ⟨Int.le_refl _, by show (0 : Int) ≤ M * 0; omega⟩
  | n + 1, h => by
    have a := smI_rg hM n (fun i p q => h i p (by omega))
    have b := h n (by omega) (by omega)
    show 0 ≤ sm f n + f n ∧ sm f n + f n ≤ M * ((n + 1 : Nat) : Int)
    rw [show ((n + 1 : Nat) : Int) = (n : Int) + 1 from rfl, Int.mul_add, Int.mul_one]
    omega
theorem smI_5 {f : Int → Int} {M : Int} (hM : 0 ≤ M) {G : Int} (hG : 0 ≤ G ∧ G ≤ 5) (h : ∀ i : Int, 0 ≤ i → i < G → 0 ≤ f i ∧ f i ≤ M) : 0 ≤ smI f G ∧ smI f G ≤ M * 5 := by
  have a := smI_rg hM G.toNat (fun i p q => h i p (by omega))
  refine ⟨a.1, Int.le_trans a.2 ?_⟩
  exact Int.mul_le_mul_of_nonneg_left (by omega) hM

set_option maxHeartbeats 4000000 in
set_option maxRecDepth 100000 in
theorem s_digest {X : AX} {d : Nat} {σ : SG} (ho : ScOK σ 1) (hn8 : 0 ≤ σ.1 8 2 ∧ σ.1 8 2 ≤ 40) (hT8 : ∀ j, 0 ≤ j → j < 40 → chr7 (σ.1 9 j)) (hn11 : 0 ≤ σ.1 11 2 ∧ σ.1 11 2 ≤ 40) (hT11 : ∀ j, 0 ≤ j → j < 40 → chr7 (σ.1 12 j)) (hn14 : 0 ≤ σ.1 14 2 ∧ σ.1 14 2 ≤ 40) (hT14 : ∀ j, 0 ≤ j → j < 40 → chr7 (σ.1 15 j)) (hb : ∀ g, 0 ≤ g → g < σ.1 1 6 → 0 ≤ bfS σ 1 g ∧ bfS σ 1 g ≤ 1000000) : Ev X 0 0 (d + 4) mX10_digest 0 [some (rv 0), none, none, none] [] σ (QJ (fun v σ' => v = dgD σ ∧ Fr [37, 38, 39, 40, 41, 42] σ σ')) := by
  have hx6 := ho.1
  have hx7 := ho.2.1
  have hx8 := ho.2.2.1
  have hx9 := ho.2.2.2.1
  have hx10 := ho.2.2.2.2.1
  have hx11 := ho.2.2.2.2.2.1
  have hx2 := smI_5 (f := fun g => gv (σ.1 6) g) (M := 36) (by decide) hx6 (fun g a b => gv_rg ho.2.2.2.2.2.2.1 a (by omega))
  have hx3 := smI_5 (f := σ.1 2) (M := 12) (by decide) hx6 (fun g a b => ho.2.2.2.2.2.2.2.2.2.2.1 g a (by omega))
  have hx4 := smI_5 (f := fun g => bfS σ 1 g) (M := 1000000) (by decide) hx6 (fun g a b => hb g a b)
  refine e_aload_n (pc' := 1) dX10_digest_0 rfl rfl ?_
  refine e_getR (pc' := 4) dX10_digest_1 rfl f_10_46 h_0 rfl ?_
  refine e_aload_n (pc' := 5) dX10_digest_4 rfl rfl ?_
  refine e_getR (pc' := 8) dX10_digest_5 rfl f_10_10 h_0 rfl ?_
  refine e_cv1v (pc' := 11) dX10_digest_8 rfl k_10_161 h_39 rfl (Nat.le_of_ble_eq_true rfl) rfl rfl ⟨rfl, rfl⟩ ⟨Nat.zero_le _, Nat.zero_le _⟩ (s_fill_1 ho) ?_
  rintro τ ⟨hL, hF⟩
  have hS := sameSc_1 hF
  have hoτ : ScOK τ 1 := ho.cg hS
  have eq1 : τ.1 1 = σ.1 1 := (hF 1 (by decide)).1
  have eq2 : τ.1 2 = σ.1 2 := (hF 2 (by decide)).1
  have eq3 : τ.1 3 = σ.1 3 := (hF 3 (by decide)).1
  have eq4 : τ.1 4 = σ.1 4 := (hF 4 (by decide)).1
  have eq5 : τ.1 5 = σ.1 5 := (hF 5 (by decide)).1
  have eq6 : τ.1 6 = σ.1 6 := (hF 6 (by decide)).1
  have eq8 : τ.1 8 = σ.1 8 := (hF 8 (by decide)).1
  have eq9 : τ.1 9 = σ.1 9 := (hF 9 (by decide)).1
  have eq11 : τ.1 11 = σ.1 11 := (hF 11 (by decide)).1
  have eq12 : τ.1 12 = σ.1 12 := (hF 12 (by decide)).1
  have eq14 : τ.1 14 = σ.1 14 := (hF 14 (by decide)).1
  have eq15 : τ.1 15 = σ.1 15 := (hF 15 (by decide)).1
  have hq := LgI_q ho hL (gfS_rg ho)
  have hLr : ∀ w, 0 ≤ w → w < 3 → rg (τ.1 40 w) ∧ rg (τ.1 41 w) ∧ rg (τ.1 42 w) := fun w a b => by
    have q := hL.1 w a b
    have q1 := gfS_rg ho w a b
    have q2 := wdS_rg σ 1 w
    have q3 := adS_rg (md := σ.1 1 11) ho.2.2.2.2.1 (fun w _ _ => wdS_rg σ 1 w) w a b
    rw [q.1, q.2.1, q.2.2]
    exact ⟨⟨by omega, by omega⟩, ⟨by omega, by omega⟩, ⟨by omega, by omega⟩⟩
  refine e_ldc2 (pc' := 14) dX10_digest_11 rfl c_10_239 ?_
  refine e_lstore_n (pc' := 15) (L' := [some (rv 0), some (jv 461), none, none]) dX10_digest_14 rfl (by decide) rfl ?_
  refine e_iconst (pc' := 16) dX10_digest_15 rfl ?_
  refine e_istore_n (pc' := 17) (L' := [some (rv 0), some (jv 461), none, some (iv 0)]) dX10_digest_16 rfl (by decide) rfl ?_
  refine e_iload_n (pc' := 18) dX10_digest_17 rfl rfl ?_
  refine e_iconst (pc' := 19) dX10_digest_18 rfl ?_
  refine e_icmpI (pc' := 22) (t := 41) dX10_digest_19 (by decide) rfl ⟨by omega, by omega⟩ ⟨by omega, by omega⟩ (fun c2_1 => absurd (show 3 < (0 : Int) from c2_1) (by decide)) (fun _ => ?_)
  refine e_ldc2 (pc' := 25) dX10_digest_22 rfl c_10_241 ?_
  refine e_lload_n (pc' := 26) dX10_digest_25 rfl rfl ?_
  refine e_lmul (pc' := 27) dX10_digest_26 rfl ?_
  refine e_aload_n (pc' := 28) dX10_digest_27 rfl rfl ?_
  refine e_iload_n (pc' := 29) dX10_digest_28 rfl rfl ?_
  refine e_cv1i (pc' := 32) dX10_digest_29 rfl k_10_243 h_0 rfl (Nat.le_of_ble_eq_true rfl) rfl rfl ⟨rfl, rfl⟩ ⟨Nat.zero_le _, Nat.zero_le _⟩ (s_count hoτ 0 ⟨by decide, by decide⟩) ?_
  intro z0 σ' hr
  have hv : z0 = (σ.1 1 6) := by have q := hr.1; rw [eq1, eq2, eq6] at q; exact q
  rw [hr.2, hv]; clear hr hv
  refine e_i2l (pc' := 33) dX10_digest_32 rfl (by first | exact ⟨by omega, by omega⟩ | (rw [eq1]; exact ⟨by omega, by omega⟩)) ?_
  refine e_ladd (pc' := 34) dX10_digest_33 rfl ?_
  refine e_lstore_n (pc' := 35) (L' := [some (rv 0), some (jv ((31 * 461) + (Int64.ofInt (σ.1 1 6)))), none, some (iv 0)]) dX10_digest_34 rfl (by decide) rfl ?_
  refine e_iinc (pc' := 38) (L' := [some (rv 0), some (jv ((31 * 461) + (Int64.ofInt (σ.1 1 6)))), none, some (iv 1)]) dX10_digest_35 rfl rfl (by decide) rfl ?_
  refine e_goto (pc' := 17) dX10_digest_38 (by decide) ?_
  refine e_iload_n (pc' := 18) dX10_digest_17 rfl rfl ?_
  refine e_iconst (pc' := 19) dX10_digest_18 rfl ?_
  refine e_icmpI (pc' := 22) (t := 41) dX10_digest_19 (by decide) rfl ⟨by omega, by omega⟩ ⟨by omega, by omega⟩ (fun c2_2 => absurd (show 3 < (1 : Int) from c2_2) (by decide)) (fun _ => ?_)
  refine e_ldc2 (pc' := 25) dX10_digest_22 rfl c_10_241 ?_
  refine e_lload_n (pc' := 26) dX10_digest_25 rfl rfl ?_
  refine e_lmul (pc' := 27) dX10_digest_26 rfl ?_
  refine e_aload_n (pc' := 28) dX10_digest_27 rfl rfl ?_
  refine e_iload_n (pc' := 29) dX10_digest_28 rfl rfl ?_
  refine e_cv1i (pc' := 32) dX10_digest_29 rfl k_10_243 h_0 rfl (Nat.le_of_ble_eq_true rfl) rfl rfl ⟨rfl, rfl⟩ ⟨Nat.zero_le _, Nat.zero_le _⟩ (s_count hoτ 1 ⟨by decide, by decide⟩) ?_
  intro z1 σ' hr
  have hv : z1 = (σ.1 1 7) := by have q := hr.1; rw [eq1, eq2, eq6] at q; exact q
  rw [hr.2, hv]; clear hr hv
  refine e_i2l (pc' := 33) dX10_digest_32 rfl (by first | exact ⟨by omega, by omega⟩ | (rw [eq1]; exact ⟨by omega, by omega⟩)) ?_
  refine e_ladd (pc' := 34) dX10_digest_33 rfl ?_
  refine e_lstore_n (pc' := 35) (L' := [some (rv 0), some (jv ((31 * ((31 * 461) + (Int64.ofInt (σ.1 1 6)))) + (Int64.ofInt (σ.1 1 7)))), none, some (iv 1)]) dX10_digest_34 rfl (by decide) rfl ?_
  refine e_iinc (pc' := 38) (L' := [some (rv 0), some (jv ((31 * ((31 * 461) + (Int64.ofInt (σ.1 1 6)))) + (Int64.ofInt (σ.1 1 7)))), none, some (iv 2)]) dX10_digest_35 rfl rfl (by decide) rfl ?_
  refine e_goto (pc' := 17) dX10_digest_38 (by decide) ?_
  refine e_iload_n (pc' := 18) dX10_digest_17 rfl rfl ?_
  refine e_iconst (pc' := 19) dX10_digest_18 rfl ?_
  refine e_icmpI (pc' := 22) (t := 41) dX10_digest_19 (by decide) rfl ⟨by omega, by omega⟩ ⟨by omega, by omega⟩ (fun c2_3 => absurd (show 3 < (2 : Int) from c2_3) (by decide)) (fun _ => ?_)
  refine e_ldc2 (pc' := 25) dX10_digest_22 rfl c_10_241 ?_
  refine e_lload_n (pc' := 26) dX10_digest_25 rfl rfl ?_
  refine e_lmul (pc' := 27) dX10_digest_26 rfl ?_
  refine e_aload_n (pc' := 28) dX10_digest_27 rfl rfl ?_
  refine e_iload_n (pc' := 29) dX10_digest_28 rfl rfl ?_
  refine e_cv1i (pc' := 32) dX10_digest_29 rfl k_10_243 h_0 rfl (Nat.le_of_ble_eq_true rfl) rfl rfl ⟨rfl, rfl⟩ ⟨Nat.zero_le _, Nat.zero_le _⟩ (s_count hoτ 2 ⟨by decide, by decide⟩) ?_
  intro z2 σ' hr
  have hv : z2 = (smI (fun g => gv (σ.1 6) g) (σ.1 1 6)) := by have q := hr.1; rw [eq1, eq2, eq6] at q; exact q
  rw [hr.2, hv]; clear hr hv
  refine e_i2l (pc' := 33) dX10_digest_32 rfl (by first | exact ⟨by omega, by omega⟩ | (rw [eq1]; exact ⟨by omega, by omega⟩)) ?_
  refine e_ladd (pc' := 34) dX10_digest_33 rfl ?_
  refine e_lstore_n (pc' := 35) (L' := [some (rv 0), some (jv ((31 * ((31 * ((31 * 461) + (Int64.ofInt (σ.1 1 6)))) + (Int64.ofInt (σ.1 1 7)))) + (Int64.ofInt (smI (fun g => gv (σ.1 6) g) (σ.1 1 6))))), none, some (iv 2)]) dX10_digest_34 rfl (by decide) rfl ?_
  refine e_iinc (pc' := 38) (L' := [some (rv 0), some (jv ((31 * ((31 * ((31 * 461) + (Int64.ofInt (σ.1 1 6)))) + (Int64.ofInt (σ.1 1 7)))) + (Int64.ofInt (smI (fun g => gv (σ.1 6) g) (σ.1 1 6))))), none, some (iv 3)]) dX10_digest_35 rfl rfl (by decide) rfl ?_
  refine e_goto (pc' := 17) dX10_digest_38 (by decide) ?_
  refine e_iload_n (pc' := 18) dX10_digest_17 rfl rfl ?_
  refine e_iconst (pc' := 19) dX10_digest_18 rfl ?_
  refine e_icmpI (pc' := 22) (t := 41) dX10_digest_19 (by decide) rfl ⟨by omega, by omega⟩ ⟨by omega, by omega⟩ (fun c2_4 => absurd (show 3 < (3 : Int) from c2_4) (by decide)) (fun _ => ?_)
  refine e_ldc2 (pc' := 25) dX10_digest_22 rfl c_10_241 ?_
  refine e_lload_n (pc' := 26) dX10_digest_25 rfl rfl ?_
  refine e_lmul (pc' := 27) dX10_digest_26 rfl ?_
  refine e_aload_n (pc' := 28) dX10_digest_27 rfl rfl ?_
  refine e_iload_n (pc' := 29) dX10_digest_28 rfl rfl ?_
  refine e_cv1i (pc' := 32) dX10_digest_29 rfl k_10_243 h_0 rfl (Nat.le_of_ble_eq_true rfl) rfl rfl ⟨rfl, rfl⟩ ⟨Nat.zero_le _, Nat.zero_le _⟩ (s_count hoτ 3 ⟨by decide, by decide⟩) ?_
  intro z3 σ' hr
  have hv : z3 = (smI (σ.1 2) (σ.1 1 6)) := by have q := hr.1; rw [eq1, eq2, eq6] at q; exact q
  rw [hr.2, hv]; clear hr hv
  refine e_i2l (pc' := 33) dX10_digest_32 rfl (by first | exact ⟨by omega, by omega⟩ | (rw [eq1]; exact ⟨by omega, by omega⟩)) ?_
  refine e_ladd (pc' := 34) dX10_digest_33 rfl ?_
  refine e_lstore_n (pc' := 35) (L' := [some (rv 0), some (jv ((31 * ((31 * ((31 * ((31 * 461) + (Int64.ofInt (σ.1 1 6)))) + (Int64.ofInt (σ.1 1 7)))) + (Int64.ofInt (smI (fun g => gv (σ.1 6) g) (σ.1 1 6))))) + (Int64.ofInt (smI (σ.1 2) (σ.1 1 6))))), none, some (iv 3)]) dX10_digest_34 rfl (by decide) rfl ?_
  refine e_iinc (pc' := 38) (L' := [some (rv 0), some (jv ((31 * ((31 * ((31 * ((31 * 461) + (Int64.ofInt (σ.1 1 6)))) + (Int64.ofInt (σ.1 1 7)))) + (Int64.ofInt (smI (fun g => gv (σ.1 6) g) (σ.1 1 6))))) + (Int64.ofInt (smI (σ.1 2) (σ.1 1 6))))), none, some (iv 4)]) dX10_digest_35 rfl rfl (by decide) rfl ?_
  refine e_goto (pc' := 17) dX10_digest_38 (by decide) ?_
  refine e_iload_n (pc' := 18) dX10_digest_17 rfl rfl ?_
  refine e_iconst (pc' := 19) dX10_digest_18 rfl ?_
  refine e_icmpI (pc' := 22) (t := 41) dX10_digest_19 (by decide) rfl ⟨by omega, by omega⟩ ⟨by omega, by omega⟩ (fun _ => ?_) (fun c2_5 => absurd (show 3 < (4 : Int) by decide) c2_5)
  refine e_aload_n (pc' := 42) dX10_digest_41 rfl rfl ?_
  refine e_lload_n (pc' := 43) dX10_digest_42 rfl rfl ?_
  refine e_cv1j (pc' := 46) dX10_digest_43 rfl k_10_246 h_0 rfl (Nat.le_of_ble_eq_true rfl) rfl rfl ⟨rfl, rfl⟩ ⟨Nat.zero_le _, Nat.zero_le _⟩ (s_dgG hoτ ((31 * ((31 * ((31 * ((31 * 461) + (Int64.ofInt (σ.1 1 6)))) + (Int64.ofInt (σ.1 1 7)))) + (Int64.ofInt (smI (fun g => gv (σ.1 6) g) (σ.1 1 6))))) + (Int64.ofInt (smI (σ.1 2) (σ.1 1 6))))) ?_
  intro r1 σ' hr; rw [hr.1, hr.2]; clear hr
  rw [eq1, eq2, eq4, eq5, eq6]
  refine e_lstore_n (pc' := 47) (L' := [some (rv 0), some (jv (fdJI (dgg (σ.1 2) (σ.1 4) (σ.1 5) (σ.1 6)) (σ.1 1 6) ((31 * ((31 * ((31 * ((31 * 461) + (Int64.ofInt (σ.1 1 6)))) + (Int64.ofInt (σ.1 1 7)))) + (Int64.ofInt (smI (fun g => gv (σ.1 6) g) (σ.1 1 6))))) + (Int64.ofInt (smI (σ.1 2) (σ.1 1 6)))))), none, some (iv 4)]) dX10_digest_46 rfl (by decide) rfl ?_
  refine e_aload_n (pc' := 48) dX10_digest_47 rfl rfl ?_
  refine e_lload_n (pc' := 49) dX10_digest_48 rfl rfl ?_
  refine e_cv1j (pc' := 52) dX10_digest_49 rfl k_10_250 h_0 rfl (Nat.le_of_ble_eq_true rfl) rfl rfl ⟨rfl, rfl⟩ ⟨Nat.zero_le _, Nat.zero_le _⟩ (s_dgW hoτ hLr (fdJI (dgg (σ.1 2) (σ.1 4) (σ.1 5) (σ.1 6)) (σ.1 1 6) ((31 * ((31 * ((31 * ((31 * 461) + (Int64.ofInt (σ.1 1 6)))) + (Int64.ofInt (σ.1 1 7)))) + (Int64.ofInt (smI (fun g => gv (σ.1 6) g) (σ.1 1 6))))) + (Int64.ofInt (smI (σ.1 2) (σ.1 1 6)))))) ?_
  intro r2 σ' hr; rw [hr.1, hr.2]; clear hr
  rw [fdJI_cg (i := τ.1 1 7) (f := dgw (τ.1 3) (τ.1 40) (τ.1 41) (τ.1 42)) (g := dgw (σ.1 3) (gfS σ 1) (wdS σ 1) (adS (σ.1 1 11) (σ.1 1 10) (wdS σ 1))) _ (fun j a b h => by have q := hL.1 j a (by have := hoτ.2.1; omega); unfold dgw; rw [q.1, q.2.1, q.2.2, eq3]), eq1]
  refine e_lstore_n (pc' := 53) (L' := [some (rv 0), some (jv (fdJI (dgw (σ.1 3) (gfS σ 1) (wdS σ 1) (adS (σ.1 1 11) (σ.1 1 10) (wdS σ 1))) (σ.1 1 7) (fdJI (dgg (σ.1 2) (σ.1 4) (σ.1 5) (σ.1 6)) (σ.1 1 6) ((31 * ((31 * ((31 * ((31 * 461) + (Int64.ofInt (σ.1 1 6)))) + (Int64.ofInt (σ.1 1 7)))) + (Int64.ofInt (smI (fun g => gv (σ.1 6) g) (σ.1 1 6))))) + (Int64.ofInt (smI (σ.1 2) (σ.1 1 6))))))), none, some (iv 4)]) dX10_digest_52 rfl (by decide) rfl ?_
  refine e_ldc2 (pc' := 56) dX10_digest_53 rfl c_10_241 ?_
  refine e_lload_n (pc' := 57) dX10_digest_56 rfl rfl ?_
  refine e_lmul (pc' := 58) dX10_digest_57 rfl ?_
  refine e_aload_n (pc' := 59) dX10_digest_58 rfl rfl ?_
  refine e_getR (pc' := 62) dX10_digest_59 rfl f_10_10 h_0 rfl ?_
  refine e_getI (pc' := 65) (v := (σ.1 1 8)) dX10_digest_62 rfl f_10_253 h_1 rfl (congrFun eq1 8) ?_
  refine e_i2l (pc' := 66) dX10_digest_65 rfl (by first | exact ⟨by omega, by omega⟩ | (rw [eq1]; exact ⟨by omega, by omega⟩)) ?_
  refine e_ladd (pc' := 67) dX10_digest_66 rfl ?_
  refine e_lstore_n (pc' := 68) (L' := [some (rv 0), some (jv ((31 * (fdJI (dgw (σ.1 3) (gfS σ 1) (wdS σ 1) (adS (σ.1 1 11) (σ.1 1 10) (wdS σ 1))) (σ.1 1 7) (fdJI (dgg (σ.1 2) (σ.1 4) (σ.1 5) (σ.1 6)) (σ.1 1 6) ((31 * ((31 * ((31 * ((31 * 461) + (Int64.ofInt (σ.1 1 6)))) + (Int64.ofInt (σ.1 1 7)))) + (Int64.ofInt (smI (fun g => gv (σ.1 6) g) (σ.1 1 6))))) + (Int64.ofInt (smI (σ.1 2) (σ.1 1 6))))))) + (Int64.ofInt (σ.1 1 8)))), none, some (iv 4)]) dX10_digest_67 rfl (by decide) rfl ?_
  refine e_ldc2 (pc' := 71) dX10_digest_68 rfl c_10_241 ?_
  refine e_lload_n (pc' := 72) dX10_digest_71 rfl rfl ?_
  refine e_lmul (pc' := 73) dX10_digest_72 rfl ?_
  refine e_aload_n (pc' := 74) dX10_digest_73 rfl rfl ?_
  refine e_getR (pc' := 77) dX10_digest_74 rfl f_10_10 h_0 rfl ?_
  refine e_getI (pc' := 80) (v := (σ.1 1 9)) dX10_digest_77 rfl f_10_256 h_1 rfl (congrFun eq1 9) ?_
  refine e_i2l (pc' := 81) dX10_digest_80 rfl (by first | exact ⟨by omega, by omega⟩ | (rw [eq1]; exact ⟨by omega, by omega⟩)) ?_
  refine e_ladd (pc' := 82) dX10_digest_81 rfl ?_
  refine e_lstore_n (pc' := 83) (L' := [some (rv 0), some (jv ((31 * ((31 * (fdJI (dgw (σ.1 3) (gfS σ 1) (wdS σ 1) (adS (σ.1 1 11) (σ.1 1 10) (wdS σ 1))) (σ.1 1 7) (fdJI (dgg (σ.1 2) (σ.1 4) (σ.1 5) (σ.1 6)) (σ.1 1 6) ((31 * ((31 * ((31 * ((31 * 461) + (Int64.ofInt (σ.1 1 6)))) + (Int64.ofInt (σ.1 1 7)))) + (Int64.ofInt (smI (fun g => gv (σ.1 6) g) (σ.1 1 6))))) + (Int64.ofInt (smI (σ.1 2) (σ.1 1 6))))))) + (Int64.ofInt (σ.1 1 8)))) + (Int64.ofInt (σ.1 1 9)))), none, some (iv 4)]) dX10_digest_82 rfl (by decide) rfl ?_
  refine e_ldc2 (pc' := 86) dX10_digest_83 rfl c_10_241 ?_
  refine e_lload_n (pc' := 87) dX10_digest_86 rfl rfl ?_
  refine e_lmul (pc' := 88) dX10_digest_87 rfl ?_
  refine e_aload_n (pc' := 89) dX10_digest_88 rfl rfl ?_
  refine e_getR (pc' := 92) dX10_digest_89 rfl f_10_10 h_0 rfl ?_
  refine e_getI (pc' := 95) (v := (σ.1 1 10)) dX10_digest_92 rfl f_10_259 h_1 rfl (congrFun eq1 10) ?_
  refine e_i2l (pc' := 96) dX10_digest_95 rfl (by first | exact ⟨by omega, by omega⟩ | (rw [eq1]; exact ⟨by omega, by omega⟩)) ?_
  refine e_ladd (pc' := 97) dX10_digest_96 rfl ?_
  refine e_lstore_n (pc' := 98) (L' := [some (rv 0), some (jv ((31 * ((31 * ((31 * (fdJI (dgw (σ.1 3) (gfS σ 1) (wdS σ 1) (adS (σ.1 1 11) (σ.1 1 10) (wdS σ 1))) (σ.1 1 7) (fdJI (dgg (σ.1 2) (σ.1 4) (σ.1 5) (σ.1 6)) (σ.1 1 6) ((31 * ((31 * ((31 * ((31 * 461) + (Int64.ofInt (σ.1 1 6)))) + (Int64.ofInt (σ.1 1 7)))) + (Int64.ofInt (smI (fun g => gv (σ.1 6) g) (σ.1 1 6))))) + (Int64.ofInt (smI (σ.1 2) (σ.1 1 6))))))) + (Int64.ofInt (σ.1 1 8)))) + (Int64.ofInt (σ.1 1 9)))) + (Int64.ofInt (σ.1 1 10)))), none, some (iv 4)]) dX10_digest_97 rfl (by decide) rfl ?_
  refine e_ldc2 (pc' := 101) dX10_digest_98 rfl c_10_241 ?_
  refine e_lload_n (pc' := 102) dX10_digest_101 rfl rfl ?_
  refine e_lmul (pc' := 103) dX10_digest_102 rfl ?_
  refine e_aload_n (pc' := 104) dX10_digest_103 rfl rfl ?_
  refine e_getR (pc' := 107) dX10_digest_104 rfl f_10_10 h_0 rfl ?_
  refine e_getI (pc' := 110) (v := (σ.1 1 11)) dX10_digest_107 rfl f_10_262 h_1 rfl (congrFun eq1 11) ?_
  refine e_i2l (pc' := 111) dX10_digest_110 rfl (by first | exact ⟨by omega, by omega⟩ | (rw [eq1]; exact ⟨by omega, by omega⟩)) ?_
  refine e_ladd (pc' := 112) dX10_digest_111 rfl ?_
  refine e_lstore_n (pc' := 113) (L' := [some (rv 0), some (jv ((31 * ((31 * ((31 * ((31 * (fdJI (dgw (σ.1 3) (gfS σ 1) (wdS σ 1) (adS (σ.1 1 11) (σ.1 1 10) (wdS σ 1))) (σ.1 1 7) (fdJI (dgg (σ.1 2) (σ.1 4) (σ.1 5) (σ.1 6)) (σ.1 1 6) ((31 * ((31 * ((31 * ((31 * 461) + (Int64.ofInt (σ.1 1 6)))) + (Int64.ofInt (σ.1 1 7)))) + (Int64.ofInt (smI (fun g => gv (σ.1 6) g) (σ.1 1 6))))) + (Int64.ofInt (smI (σ.1 2) (σ.1 1 6))))))) + (Int64.ofInt (σ.1 1 8)))) + (Int64.ofInt (σ.1 1 9)))) + (Int64.ofInt (σ.1 1 10)))) + (Int64.ofInt (σ.1 1 11)))), none, some (iv 4)]) dX10_digest_112 rfl (by decide) rfl ?_
  refine e_aload_n (pc' := 114) dX10_digest_113 rfl rfl ?_
  refine e_lload_n (pc' := 115) dX10_digest_114 rfl rfl ?_
  refine e_cv1j (pc' := 118) dX10_digest_115 rfl k_10_265 h_0 rfl (Nat.le_of_ble_eq_true rfl) rfl rfl ⟨rfl, rfl⟩ ⟨Nat.zero_le _, Nat.zero_le _⟩ (s_dgR (by rw [eq8]; exact hn8) (by rw [eq9]; exact hT8) (by rw [eq11]; exact hn11) (by rw [eq12]; exact hT11) (by rw [eq14]; exact hn14) (by rw [eq15]; exact hT14) ((31 * ((31 * ((31 * ((31 * (fdJI (dgw (σ.1 3) (gfS σ 1) (wdS σ 1) (adS (σ.1 1 11) (σ.1 1 10) (wdS σ 1))) (σ.1 1 7) (fdJI (dgg (σ.1 2) (σ.1 4) (σ.1 5) (σ.1 6)) (σ.1 1 6) ((31 * ((31 * ((31 * ((31 * 461) + (Int64.ofInt (σ.1 1 6)))) + (Int64.ofInt (σ.1 1 7)))) + (Int64.ofInt (smI (fun g => gv (σ.1 6) g) (σ.1 1 6))))) + (Int64.ofInt (smI (σ.1 2) (σ.1 1 6))))))) + (Int64.ofInt (σ.1 1 8)))) + (Int64.ofInt (σ.1 1 9)))) + (Int64.ofInt (σ.1 1 10)))) + (Int64.ofInt (σ.1 1 11)))) ?_
  intro r3 σ' hr; rw [hr.1, hr.2]; clear hr
  rw [eq8, eq9, eq11, eq12, eq14, eq15]
  refine e_lstore_n (pc' := 119) (L' := [some (rv 0), some (jv (dgr (σ.1 14 2) (σ.1 15) (dgr (σ.1 11 2) (σ.1 12) (dgr (σ.1 8 2) (σ.1 9) ((31 * ((31 * ((31 * ((31 * (fdJI (dgw (σ.1 3) (gfS σ 1) (wdS σ 1) (adS (σ.1 1 11) (σ.1 1 10) (wdS σ 1))) (σ.1 1 7) (fdJI (dgg (σ.1 2) (σ.1 4) (σ.1 5) (σ.1 6)) (σ.1 1 6) ((31 * ((31 * ((31 * ((31 * 461) + (Int64.ofInt (σ.1 1 6)))) + (Int64.ofInt (σ.1 1 7)))) + (Int64.ofInt (smI (fun g => gv (σ.1 6) g) (σ.1 1 6))))) + (Int64.ofInt (smI (σ.1 2) (σ.1 1 6))))))) + (Int64.ofInt (σ.1 1 8)))) + (Int64.ofInt (σ.1 1 9)))) + (Int64.ofInt (σ.1 1 10)))) + (Int64.ofInt (σ.1 1 11))))))), none, some (iv 4)]) dX10_digest_118 rfl (by decide) rfl ?_
  refine e_ldc2 (pc' := 122) dX10_digest_119 rfl c_10_241 ?_
  refine e_lload_n (pc' := 123) dX10_digest_122 rfl rfl ?_
  refine e_lmul (pc' := 124) dX10_digest_123 rfl ?_
  refine e_aload_n (pc' := 125) dX10_digest_124 rfl rfl ?_
  refine e_getR (pc' := 128) dX10_digest_125 rfl f_10_46 h_0 rfl ?_
  refine e_aload_n (pc' := 129) dX10_digest_128 rfl rfl ?_
  refine e_getR (pc' := 132) dX10_digest_129 rfl f_10_10 h_0 rfl ?_
  refine e_cv1i (pc' := 135) dX10_digest_132 rfl k_10_181 h_39 rfl (Nat.le_of_ble_eq_true rfl) rfl rfl ⟨rfl, rfl⟩ ⟨Nat.zero_le _, Nat.zero_le _⟩ (s_allHave_1 hoτ hq) ?_
  intro r4 σ' hr; rw [hr.1, hr.2]; clear hr
  rw [show (fun g => hvO τ 1 (fun w => τ.1 40 w + τ.1 42 w) (ktO τ 1 g) g) = (fun g => bfS σ 1 g) from funext fun g => hv_bf hS hL, eq1]
  refine e_i2l (pc' := 136) dX10_digest_135 rfl (by first | exact ⟨by omega, by omega⟩ | (rw [eq1]; exact ⟨by omega, by omega⟩)) ?_
  refine e_ladd (pc' := 137) dX10_digest_136 rfl ?_
  exact e_lret dX10_digest_137 rfl ⟨rfl, Nat.le_refl _⟩ ⟨_, rfl, by first | rfl | (rw [eq1]; rfl), hF⟩
