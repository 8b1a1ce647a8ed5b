/-! the reference: digest -/
theorem hj_31 (h : Int64) (a c : Int) : 31 * h + Int64.ofInt (a + c) = h * 31 + Int64.ofInt a + Int64.ofInt c := by
  rw [Int64.ofInt_add, Int64.mul_comm 31 h, Int64.add_assoc]

set_option maxHeartbeats 4000000 in
set_option maxRecDepth 100000 in
theorem l_mdG {X : AX} {d : Nat} {σ ρ : SG} {Q : Option AV → SG → Prop} (h : MdI σ ρ 1) (hR : MrR (σ.1 89) ρ 1) (h0 : Int64) (hK : ∀ y3 y4 y5, Ev X 0 0 (d + 8) mX11_digest 140 [some (rv 88), some (jv (fdJI (dgg (ρ.1 2) (ρ.1 4) (ρ.1 5) (ρ.1 6)) (ρ.1 1 6) h0)), none, y3, y4, y5] [] σ Q) : ∀ (k : Nat) (i : Int) (hh : Int64) (x4 x5 : Option AV), 0 ≤ i → i ≤ (ρ.1 1 6) → (ρ.1 1 6) - i < k → hh = fdJI (dgg (ρ.1 2) (ρ.1 4) (ρ.1 5) (ρ.1 6)) i h0 → Ev X 0 0 (d + 8) mX11_digest 32 [some (rv 88), some (jv hh), none, some (iv i), x4, x5] [] σ Q := by
  intro k
  induction k with
  | zero => intros; omega
  | succ k ih =>
  intro i hh x4 x5 hi0 hi1 hik hhe
  have ho := h.1
  have hX := h.2.1
  have hG := ho.1
  have hW := ho.2.1
  have hP := h.2.2.1
  refine e_iload_n (pc' := 33) dX11_digest_32 rfl rfl ?_
  refine e_aload_n (pc' := 34) dX11_digest_33 rfl rfl ?_
  refine e_cv0i (pc' := 37) dX11_digest_34 rfl k_11_76 h_88 rfl (Nat.le_of_ble_eq_true rfl) rfl rfl ⟨rfl, rfl⟩ ⟨Nat.zero_le _, Nat.zero_le _⟩ s_m_givers ?_
  intro r σ' hr; rw [hr.1, hr.2, hP.1.1]; clear hr
  refine e_icmpI (pc' := 40) (t := 140) dX11_digest_37 (by decide) rfl ⟨by omega, by omega⟩ ⟨by omega, by omega⟩ (fun (c2_1 : (ρ.1 1 6) ≤ (i : Int)) => ?_) (fun (c2_1 : ¬ ((ρ.1 1 6) ≤ (i : Int))) => ?_)
  · rw [hhe, show i = (ρ.1 1 6) by omega]
    exact hK _ _ _
  · have hcn : σ.1 89 (0 + i) = ρ.1 2 i := by rw [show 0 + i = i by omega]; exact hP.2.1 i (by omega) (by omega)
    have hcr : 0 ≤ ρ.1 2 i ∧ ρ.1 2 i ≤ 12 := ho.2.2.2.2.2.2.2.2.2.2.1 i (by omega) (by omega)
    have hf0 : σ.1 89 ((5 + (6 * i)) + (2 * 0)) = ρ.1 4 (i * 3 + 0) := by rw [show (5 + (6 * i)) + (2 * 0) = 5 + 2 * (i * 3 + 0) by omega]; exact (hP.2.2.2 (i * 3 + 0) (by omega) (by omega)).1
    have hs0 : σ.1 89 (((5 + (6 * i)) + (2 * 0)) + 1) = ρ.1 5 (i * 3 + 0) := by rw [show (5 + (6 * i)) + (2 * 0) + 1 = 6 + 2 * (i * 3 + 0) by omega]; exact (hP.2.2.2 (i * 3 + 0) (by omega) (by omega)).2.1
    have hfr0 : 0 ≤ ρ.1 4 (i * 3 + 0) ∧ ρ.1 4 (i * 3 + 0) ≤ 200 := ho.2.2.2.2.2.2.2.2.1 (i * 3 + 0) (by omega) (by omega)
    have hsr0 : 0 ≤ ρ.1 5 (i * 3 + 0) ∧ ρ.1 5 (i * 3 + 0) ≤ 50 := ho.2.2.2.2.2.2.2.2.2.1 (i * 3 + 0) (by omega) (by omega)
    have hgr0 : 0 ≤ ρ.1 6 (i * 3 + 0) ∧ ρ.1 6 (i * 3 + 0) ≤ 12 := ho.2.2.2.2.2.2.1 (i * 3 + 0) (by omega) (by omega)
    have hf1 : σ.1 89 ((5 + (6 * i)) + (2 * 1)) = ρ.1 4 (i * 3 + 1) := by rw [show (5 + (6 * i)) + (2 * 1) = 5 + 2 * (i * 3 + 1) by omega]; exact (hP.2.2.2 (i * 3 + 1) (by omega) (by omega)).1
    have hs1 : σ.1 89 (((5 + (6 * i)) + (2 * 1)) + 1) = ρ.1 5 (i * 3 + 1) := by rw [show (5 + (6 * i)) + (2 * 1) + 1 = 6 + 2 * (i * 3 + 1) by omega]; exact (hP.2.2.2 (i * 3 + 1) (by omega) (by omega)).2.1
    have hfr1 : 0 ≤ ρ.1 4 (i * 3 + 1) ∧ ρ.1 4 (i * 3 + 1) ≤ 200 := ho.2.2.2.2.2.2.2.2.1 (i * 3 + 1) (by omega) (by omega)
    have hsr1 : 0 ≤ ρ.1 5 (i * 3 + 1) ∧ ρ.1 5 (i * 3 + 1) ≤ 50 := ho.2.2.2.2.2.2.2.2.2.1 (i * 3 + 1) (by omega) (by omega)
    have hgr1 : 0 ≤ ρ.1 6 (i * 3 + 1) ∧ ρ.1 6 (i * 3 + 1) ≤ 12 := ho.2.2.2.2.2.2.1 (i * 3 + 1) (by omega) (by omega)
    have hf2 : σ.1 89 ((5 + (6 * i)) + (2 * 2)) = ρ.1 4 (i * 3 + 2) := by rw [show (5 + (6 * i)) + (2 * 2) = 5 + 2 * (i * 3 + 2) by omega]; exact (hP.2.2.2 (i * 3 + 2) (by omega) (by omega)).1
    have hs2 : σ.1 89 (((5 + (6 * i)) + (2 * 2)) + 1) = ρ.1 5 (i * 3 + 2) := by rw [show (5 + (6 * i)) + (2 * 2) + 1 = 6 + 2 * (i * 3 + 2) by omega]; exact (hP.2.2.2 (i * 3 + 2) (by omega) (by omega)).2.1
    have hfr2 : 0 ≤ ρ.1 4 (i * 3 + 2) ∧ ρ.1 4 (i * 3 + 2) ≤ 200 := ho.2.2.2.2.2.2.2.2.1 (i * 3 + 2) (by omega) (by omega)
    have hsr2 : 0 ≤ ρ.1 5 (i * 3 + 2) ∧ ρ.1 5 (i * 3 + 2) ≤ 50 := ho.2.2.2.2.2.2.2.2.2.1 (i * 3 + 2) (by omega) (by omega)
    have hgr2 : 0 ≤ ρ.1 6 (i * 3 + 2) ∧ ρ.1 6 (i * 3 + 2) ≤ 12 := ho.2.2.2.2.2.2.1 (i * 3 + 2) (by omega) (by omega)
    refine e_ldc2 (pc' := 43) dX11_digest_40 rfl c_11_258 ?_
    refine e_lload_n (pc' := 44) dX11_digest_43 rfl rfl ?_
    refine e_lmul (pc' := 45) dX11_digest_44 rfl ?_
    refine e_aload_n (pc' := 46) dX11_digest_45 rfl rfl ?_
    refine e_getR (pc' := 49) dX11_digest_46 rfl f_11_7 h_88 rfl ?_
    refine e_iconst (pc' := 50) dX11_digest_49 rfl ?_
    refine e_iload_n (pc' := 51) dX11_digest_50 rfl rfl ?_
    refine e_iadd (pc' := 52) dX11_digest_51 rfl ?_
    refine e_iald (pc' := 53) (v := (ρ.1 2 i)) dX11_digest_52 rfl h_89 (by decide) (by omega) (by omega) hcn ?_
    refine e_i2l (pc' := 54) dX11_digest_53 rfl ⟨by omega, by omega⟩ ?_
    refine e_ladd (pc' := 55) dX11_digest_54 rfl ?_
    refine e_lstore_n (pc' := 56) (L' := [some (rv 88), some (jv ((31 * hh) + (Int64.ofInt (ρ.1 2 i)))), none, some (iv i), x4, x5]) dX11_digest_55 rfl (by decide) rfl ?_
    refine e_iconst (pc' := 57) dX11_digest_56 rfl ?_
    refine e_istore (pc' := 59) (L' := [some (rv 88), some (jv ((31 * hh) + (Int64.ofInt (ρ.1 2 i)))), none, some (iv i), some (iv 0), x5]) dX11_digest_57 rfl (by decide) rfl ?_
    refine e_iload (pc' := 61) dX11_digest_59 rfl rfl ?_
    refine e_iconst (pc' := 62) dX11_digest_61 rfl ?_
    refine e_icmpI (pc' := 65) (t := 134) dX11_digest_62 (by decide) rfl ⟨by omega, by omega⟩ ⟨by omega, by omega⟩ (fun c4_2 => absurd (show 3 ≤ (0 : Int) from c4_2) (by decide)) (fun _ => ?_)
    refine e_ldc2 (pc' := 68) dX11_digest_65 rfl c_11_258 ?_
    refine e_ldc2 (pc' := 71) dX11_digest_68 rfl c_11_258 ?_
    refine e_lload_n (pc' := 72) dX11_digest_71 rfl rfl ?_
    refine e_lmul (pc' := 73) dX11_digest_72 rfl ?_
    refine e_aload_n (pc' := 74) dX11_digest_73 rfl rfl ?_
    refine e_getR (pc' := 77) dX11_digest_74 rfl f_11_7 h_88 rfl ?_
    refine e_iconst (pc' := 78) dX11_digest_77 rfl ?_
    refine e_bipush (pc' := 80) (z := 6) dX11_digest_78 rfl (by decide) ?_
    refine e_iload_n (pc' := 81) dX11_digest_80 rfl rfl ?_
    refine e_imul (pc' := 82) dX11_digest_81 rfl ?_
    refine e_iadd (pc' := 83) dX11_digest_82 rfl ?_
    refine e_iconst (pc' := 84) dX11_digest_83 rfl ?_
    refine e_iload (pc' := 86) dX11_digest_84 rfl rfl ?_
    refine e_imul (pc' := 87) dX11_digest_86 rfl ?_
    refine e_iadd (pc' := 88) dX11_digest_87 rfl ?_
    refine e_iald (pc' := 89) (v := (ρ.1 4 (i * 3 + 0))) dX11_digest_88 rfl h_89 (by decide) (by omega) (by omega) hf0 ?_
    refine e_i2l (pc' := 90) dX11_digest_89 rfl ⟨by omega, by omega⟩ ?_
    refine e_ladd (pc' := 91) dX11_digest_90 rfl ?_
    refine e_lmul (pc' := 92) dX11_digest_91 rfl ?_
    refine e_aload_n (pc' := 93) dX11_digest_92 rfl rfl ?_
    refine e_getR (pc' := 96) dX11_digest_93 rfl f_11_7 h_88 rfl ?_
    refine e_iconst (pc' := 97) dX11_digest_96 rfl ?_
    refine e_bipush (pc' := 99) (z := 6) dX11_digest_97 rfl (by decide) ?_
    refine e_iload_n (pc' := 100) dX11_digest_99 rfl rfl ?_
    refine e_imul (pc' := 101) dX11_digest_100 rfl ?_
    refine e_iadd (pc' := 102) dX11_digest_101 rfl ?_
    refine e_iconst (pc' := 103) dX11_digest_102 rfl ?_
    refine e_iload (pc' := 105) dX11_digest_103 rfl rfl ?_
    refine e_imul (pc' := 106) dX11_digest_105 rfl ?_
    refine e_iadd (pc' := 107) dX11_digest_106 rfl ?_
    refine e_iconst (pc' := 108) dX11_digest_107 rfl ?_
    refine e_iadd (pc' := 109) dX11_digest_108 rfl ?_
    refine e_iald (pc' := 110) (v := (ρ.1 5 (i * 3 + 0))) dX11_digest_109 rfl h_89 (by decide) (by omega) (by omega) hs0 ?_
    refine e_i2l (pc' := 111) dX11_digest_110 rfl ⟨by omega, by omega⟩ ?_
    refine e_ladd (pc' := 112) dX11_digest_111 rfl ?_
    refine e_lstore_n (pc' := 113) (L' := [some (rv 88), some (jv ((31 * ((31 * ((31 * hh) + (Int64.ofInt (ρ.1 2 i)))) + (Int64.ofInt (ρ.1 4 (i * 3 + 0))))) + (Int64.ofInt (ρ.1 5 (i * 3 + 0))))), none, some (iv i), some (iv 0), x5]) dX11_digest_112 rfl (by decide) rfl ?_
    refine e_ldc2 (pc' := 116) dX11_digest_113 rfl c_11_258 ?_
    refine e_lload_n (pc' := 117) dX11_digest_116 rfl rfl ?_
    refine e_lmul (pc' := 118) dX11_digest_117 rfl ?_
    refine e_aload_n (pc' := 119) dX11_digest_118 rfl rfl ?_
    refine e_iload_n (pc' := 120) dX11_digest_119 rfl rfl ?_
    refine e_iload (pc' := 122) dX11_digest_120 rfl rfl ?_
    refine e_cv2i (pc' := 125) dX11_digest_122 rfl k_11_186 h_88 rfl (Nat.le_of_ble_eq_true rfl) rfl rfl ⟨rfl, rfl⟩ ⟨Nat.zero_le _, Nat.zero_le _⟩ (s_m_gift i 0 (by omega) (by omega)) ?_
    intro r σ' hr; rw [hr.1, hr.2, show σ.1 89 (35 + 3 * i + 0) = ρ.1 6 (i * 3 + 0) from by have q := (hP.2.2.2 (i * 3 + 0) (by omega) (by omega)).2.2; rw [show 35 + (i * 3 + 0) = 35 + 3 * i + 0 by omega] at q; exact q]; clear hr
    refine e_i2l (pc' := 126) dX11_digest_125 rfl ⟨by omega, by omega⟩ ?_
    refine e_ladd (pc' := 127) dX11_digest_126 rfl ?_
    refine e_lstore_n (pc' := 128) (L' := [some (rv 88), some (jv ((31 * ((31 * ((31 * ((31 * hh) + (Int64.ofInt (ρ.1 2 i)))) + (Int64.ofInt (ρ.1 4 (i * 3 + 0))))) + (Int64.ofInt (ρ.1 5 (i * 3 + 0))))) + (Int64.ofInt (ρ.1 6 (i * 3 + 0))))), none, some (iv i), some (iv 0), x5]) dX11_digest_127 rfl (by decide) rfl ?_
    refine e_iinc (pc' := 131) (L' := [some (rv 88), some (jv ((31 * ((31 * ((31 * ((31 * hh) + (Int64.ofInt (ρ.1 2 i)))) + (Int64.ofInt (ρ.1 4 (i * 3 + 0))))) + (Int64.ofInt (ρ.1 5 (i * 3 + 0))))) + (Int64.ofInt (ρ.1 6 (i * 3 + 0))))), none, some (iv i), some (iv 1), x5]) dX11_digest_128 rfl rfl (by decide) rfl ?_
    refine e_goto (pc' := 59) dX11_digest_131 (by decide) ?_
    refine e_iload (pc' := 61) dX11_digest_59 rfl rfl ?_
    refine e_iconst (pc' := 62) dX11_digest_61 rfl ?_
    refine e_icmpI (pc' := 65) (t := 134) dX11_digest_62 (by decide) rfl ⟨by omega, by omega⟩ ⟨by omega, by omega⟩ (fun c4_3 => absurd (show 3 ≤ (1 : Int) from c4_3) (by decide)) (fun _ => ?_)
    refine e_ldc2 (pc' := 68) dX11_digest_65 rfl c_11_258 ?_
    refine e_ldc2 (pc' := 71) dX11_digest_68 rfl c_11_258 ?_
    refine e_lload_n (pc' := 72) dX11_digest_71 rfl rfl ?_
    refine e_lmul (pc' := 73) dX11_digest_72 rfl ?_
    refine e_aload_n (pc' := 74) dX11_digest_73 rfl rfl ?_
    refine e_getR (pc' := 77) dX11_digest_74 rfl f_11_7 h_88 rfl ?_
    refine e_iconst (pc' := 78) dX11_digest_77 rfl ?_
    refine e_bipush (pc' := 80) (z := 6) dX11_digest_78 rfl (by decide) ?_
    refine e_iload_n (pc' := 81) dX11_digest_80 rfl rfl ?_
    refine e_imul (pc' := 82) dX11_digest_81 rfl ?_
    refine e_iadd (pc' := 83) dX11_digest_82 rfl ?_
    refine e_iconst (pc' := 84) dX11_digest_83 rfl ?_
    refine e_iload (pc' := 86) dX11_digest_84 rfl rfl ?_
    refine e_imul (pc' := 87) dX11_digest_86 rfl ?_
    refine e_iadd (pc' := 88) dX11_digest_87 rfl ?_
    refine e_iald (pc' := 89) (v := (ρ.1 4 (i * 3 + 1))) dX11_digest_88 rfl h_89 (by decide) (by omega) (by omega) hf1 ?_
    refine e_i2l (pc' := 90) dX11_digest_89 rfl ⟨by omega, by omega⟩ ?_
    refine e_ladd (pc' := 91) dX11_digest_90 rfl ?_
    refine e_lmul (pc' := 92) dX11_digest_91 rfl ?_
    refine e_aload_n (pc' := 93) dX11_digest_92 rfl rfl ?_
    refine e_getR (pc' := 96) dX11_digest_93 rfl f_11_7 h_88 rfl ?_
    refine e_iconst (pc' := 97) dX11_digest_96 rfl ?_
    refine e_bipush (pc' := 99) (z := 6) dX11_digest_97 rfl (by decide) ?_
    refine e_iload_n (pc' := 100) dX11_digest_99 rfl rfl ?_
    refine e_imul (pc' := 101) dX11_digest_100 rfl ?_
    refine e_iadd (pc' := 102) dX11_digest_101 rfl ?_
    refine e_iconst (pc' := 103) dX11_digest_102 rfl ?_
    refine e_iload (pc' := 105) dX11_digest_103 rfl rfl ?_
    refine e_imul (pc' := 106) dX11_digest_105 rfl ?_
    refine e_iadd (pc' := 107) dX11_digest_106 rfl ?_
    refine e_iconst (pc' := 108) dX11_digest_107 rfl ?_
    refine e_iadd (pc' := 109) dX11_digest_108 rfl ?_
    refine e_iald (pc' := 110) (v := (ρ.1 5 (i * 3 + 1))) dX11_digest_109 rfl h_89 (by decide) (by omega) (by omega) hs1 ?_
    refine e_i2l (pc' := 111) dX11_digest_110 rfl ⟨by omega, by omega⟩ ?_
    refine e_ladd (pc' := 112) dX11_digest_111 rfl ?_
    refine e_lstore_n (pc' := 113) (L' := [some (rv 88), some (jv ((31 * ((31 * ((31 * ((31 * ((31 * ((31 * hh) + (Int64.ofInt (ρ.1 2 i)))) + (Int64.ofInt (ρ.1 4 (i * 3 + 0))))) + (Int64.ofInt (ρ.1 5 (i * 3 + 0))))) + (Int64.ofInt (ρ.1 6 (i * 3 + 0))))) + (Int64.ofInt (ρ.1 4 (i * 3 + 1))))) + (Int64.ofInt (ρ.1 5 (i * 3 + 1))))), none, some (iv i), some (iv 1), x5]) dX11_digest_112 rfl (by decide) rfl ?_
    refine e_ldc2 (pc' := 116) dX11_digest_113 rfl c_11_258 ?_
    refine e_lload_n (pc' := 117) dX11_digest_116 rfl rfl ?_
    refine e_lmul (pc' := 118) dX11_digest_117 rfl ?_
    refine e_aload_n (pc' := 119) dX11_digest_118 rfl rfl ?_
    refine e_iload_n (pc' := 120) dX11_digest_119 rfl rfl ?_
    refine e_iload (pc' := 122) dX11_digest_120 rfl rfl ?_
    refine e_cv2i (pc' := 125) dX11_digest_122 rfl k_11_186 h_88 rfl (Nat.le_of_ble_eq_true rfl) rfl rfl ⟨rfl, rfl⟩ ⟨Nat.zero_le _, Nat.zero_le _⟩ (s_m_gift i 1 (by omega) (by omega)) ?_
    intro r σ' hr; rw [hr.1, hr.2, show σ.1 89 (35 + 3 * i + 1) = ρ.1 6 (i * 3 + 1) from by have q := (hP.2.2.2 (i * 3 + 1) (by omega) (by omega)).2.2; rw [show 35 + (i * 3 + 1) = 35 + 3 * i + 1 by omega] at q; exact q]; clear hr
    refine e_i2l (pc' := 126) dX11_digest_125 rfl ⟨by omega, by omega⟩ ?_
    refine e_ladd (pc' := 127) dX11_digest_126 rfl ?_
    refine e_lstore_n (pc' := 128) (L' := [some (rv 88), some (jv ((31 * ((31 * ((31 * ((31 * ((31 * ((31 * ((31 * hh) + (Int64.ofInt (ρ.1 2 i)))) + (Int64.ofInt (ρ.1 4 (i * 3 + 0))))) + (Int64.ofInt (ρ.1 5 (i * 3 + 0))))) + (Int64.ofInt (ρ.1 6 (i * 3 + 0))))) + (Int64.ofInt (ρ.1 4 (i * 3 + 1))))) + (Int64.ofInt (ρ.1 5 (i * 3 + 1))))) + (Int64.ofInt (ρ.1 6 (i * 3 + 1))))), none, some (iv i), some (iv 1), x5]) dX11_digest_127 rfl (by decide) rfl ?_
    refine e_iinc (pc' := 131) (L' := [some (rv 88), some (jv ((31 * ((31 * ((31 * ((31 * ((31 * ((31 * ((31 * hh) + (Int64.ofInt (ρ.1 2 i)))) + (Int64.ofInt (ρ.1 4 (i * 3 + 0))))) + (Int64.ofInt (ρ.1 5 (i * 3 + 0))))) + (Int64.ofInt (ρ.1 6 (i * 3 + 0))))) + (Int64.ofInt (ρ.1 4 (i * 3 + 1))))) + (Int64.ofInt (ρ.1 5 (i * 3 + 1))))) + (Int64.ofInt (ρ.1 6 (i * 3 + 1))))), none, some (iv i), some (iv 2), x5]) dX11_digest_128 rfl rfl (by decide) rfl ?_
    refine e_goto (pc' := 59) dX11_digest_131 (by decide) ?_
    refine e_iload (pc' := 61) dX11_digest_59 rfl rfl ?_
    refine e_iconst (pc' := 62) dX11_digest_61 rfl ?_
    refine e_icmpI (pc' := 65) (t := 134) dX11_digest_62 (by decide) rfl ⟨by omega, by omega⟩ ⟨by omega, by omega⟩ (fun c4_4 => absurd (show 3 ≤ (2 : Int) from c4_4) (by decide)) (fun _ => ?_)
    refine e_ldc2 (pc' := 68) dX11_digest_65 rfl c_11_258 ?_
    refine e_ldc2 (pc' := 71) dX11_digest_68 rfl c_11_258 ?_
    refine e_lload_n (pc' := 72) dX11_digest_71 rfl rfl ?_
    refine e_lmul (pc' := 73) dX11_digest_72 rfl ?_
    refine e_aload_n (pc' := 74) dX11_digest_73 rfl rfl ?_
    refine e_getR (pc' := 77) dX11_digest_74 rfl f_11_7 h_88 rfl ?_
    refine e_iconst (pc' := 78) dX11_digest_77 rfl ?_
    refine e_bipush (pc' := 80) (z := 6) dX11_digest_78 rfl (by decide) ?_
    refine e_iload_n (pc' := 81) dX11_digest_80 rfl rfl ?_
    refine e_imul (pc' := 82) dX11_digest_81 rfl ?_
    refine e_iadd (pc' := 83) dX11_digest_82 rfl ?_
    refine e_iconst (pc' := 84) dX11_digest_83 rfl ?_
    refine e_iload (pc' := 86) dX11_digest_84 rfl rfl ?_
    refine e_imul (pc' := 87) dX11_digest_86 rfl ?_
    refine e_iadd (pc' := 88) dX11_digest_87 rfl ?_
    refine e_iald (pc' := 89) (v := (ρ.1 4 (i * 3 + 2))) dX11_digest_88 rfl h_89 (by decide) (by omega) (by omega) hf2 ?_
    refine e_i2l (pc' := 90) dX11_digest_89 rfl ⟨by omega, by omega⟩ ?_
    refine e_ladd (pc' := 91) dX11_digest_90 rfl ?_
    refine e_lmul (pc' := 92) dX11_digest_91 rfl ?_
    refine e_aload_n (pc' := 93) dX11_digest_92 rfl rfl ?_
    refine e_getR (pc' := 96) dX11_digest_93 rfl f_11_7 h_88 rfl ?_
    refine e_iconst (pc' := 97) dX11_digest_96 rfl ?_
    refine e_bipush (pc' := 99) (z := 6) dX11_digest_97 rfl (by decide) ?_
    refine e_iload_n (pc' := 100) dX11_digest_99 rfl rfl ?_
    refine e_imul (pc' := 101) dX11_digest_100 rfl ?_
    refine e_iadd (pc' := 102) dX11_digest_101 rfl ?_
    refine e_iconst (pc' := 103) dX11_digest_102 rfl ?_
    refine e_iload (pc' := 105) dX11_digest_103 rfl rfl ?_
    refine e_imul (pc' := 106) dX11_digest_105 rfl ?_
    refine e_iadd (pc' := 107) dX11_digest_106 rfl ?_
    refine e_iconst (pc' := 108) dX11_digest_107 rfl ?_
    refine e_iadd (pc' := 109) dX11_digest_108 rfl ?_
    refine e_iald (pc' := 110) (v := (ρ.1 5 (i * 3 + 2))) dX11_digest_109 rfl h_89 (by decide) (by omega) (by omega) hs2 ?_
    refine e_i2l (pc' := 111) dX11_digest_110 rfl ⟨by omega, by omega⟩ ?_
    refine e_ladd (pc' := 112) dX11_digest_111 rfl ?_
    refine e_lstore_n (pc' := 113) (L' := [some (rv 88), some (jv ((31 * ((31 * ((31 * ((31 * ((31 * ((31 * ((31 * ((31 * ((31 * hh) + (Int64.ofInt (ρ.1 2 i)))) + (Int64.ofInt (ρ.1 4 (i * 3 + 0))))) + (Int64.ofInt (ρ.1 5 (i * 3 + 0))))) + (Int64.ofInt (ρ.1 6 (i * 3 + 0))))) + (Int64.ofInt (ρ.1 4 (i * 3 + 1))))) + (Int64.ofInt (ρ.1 5 (i * 3 + 1))))) + (Int64.ofInt (ρ.1 6 (i * 3 + 1))))) + (Int64.ofInt (ρ.1 4 (i * 3 + 2))))) + (Int64.ofInt (ρ.1 5 (i * 3 + 2))))), none, some (iv i), some (iv 2), x5]) dX11_digest_112 rfl (by decide) rfl ?_
    refine e_ldc2 (pc' := 116) dX11_digest_113 rfl c_11_258 ?_
    refine e_lload_n (pc' := 117) dX11_digest_116 rfl rfl ?_
    refine e_lmul (pc' := 118) dX11_digest_117 rfl ?_
    refine e_aload_n (pc' := 119) dX11_digest_118 rfl rfl ?_
    refine e_iload_n (pc' := 120) dX11_digest_119 rfl rfl ?_
    refine e_iload (pc' := 122) dX11_digest_120 rfl rfl ?_
    refine e_cv2i (pc' := 125) dX11_digest_122 rfl k_11_186 h_88 rfl (Nat.le_of_ble_eq_true rfl) rfl rfl ⟨rfl, rfl⟩ ⟨Nat.zero_le _, Nat.zero_le _⟩ (s_m_gift i 2 (by omega) (by omega)) ?_
    intro r σ' hr; rw [hr.1, hr.2, show σ.1 89 (35 + 3 * i + 2) = ρ.1 6 (i * 3 + 2) from by have q := (hP.2.2.2 (i * 3 + 2) (by omega) (by omega)).2.2; rw [show 35 + (i * 3 + 2) = 35 + 3 * i + 2 by omega] at q; exact q]; clear hr
    refine e_i2l (pc' := 126) dX11_digest_125 rfl ⟨by omega, by omega⟩ ?_
    refine e_ladd (pc' := 127) dX11_digest_126 rfl ?_
    refine e_lstore_n (pc' := 128) (L' := [some (rv 88), some (jv ((31 * ((31 * ((31 * ((31 * ((31 * ((31 * ((31 * ((31 * ((31 * ((31 * hh) + (Int64.ofInt (ρ.1 2 i)))) + (Int64.ofInt (ρ.1 4 (i * 3 + 0))))) + (Int64.ofInt (ρ.1 5 (i * 3 + 0))))) + (Int64.ofInt (ρ.1 6 (i * 3 + 0))))) + (Int64.ofInt (ρ.1 4 (i * 3 + 1))))) + (Int64.ofInt (ρ.1 5 (i * 3 + 1))))) + (Int64.ofInt (ρ.1 6 (i * 3 + 1))))) + (Int64.ofInt (ρ.1 4 (i * 3 + 2))))) + (Int64.ofInt (ρ.1 5 (i * 3 + 2))))) + (Int64.ofInt (ρ.1 6 (i * 3 + 2))))), none, some (iv i), some (iv 2), x5]) dX11_digest_127 rfl (by decide) rfl ?_
    refine e_iinc (pc' := 131) (L' := [some (rv 88), some (jv ((31 * ((31 * ((31 * ((31 * ((31 * ((31 * ((31 * ((31 * ((31 * ((31 * hh) + (Int64.ofInt (ρ.1 2 i)))) + (Int64.ofInt (ρ.1 4 (i * 3 + 0))))) + (Int64.ofInt (ρ.1 5 (i * 3 + 0))))) + (Int64.ofInt (ρ.1 6 (i * 3 + 0))))) + (Int64.ofInt (ρ.1 4 (i * 3 + 1))))) + (Int64.ofInt (ρ.1 5 (i * 3 + 1))))) + (Int64.ofInt (ρ.1 6 (i * 3 + 1))))) + (Int64.ofInt (ρ.1 4 (i * 3 + 2))))) + (Int64.ofInt (ρ.1 5 (i * 3 + 2))))) + (Int64.ofInt (ρ.1 6 (i * 3 + 2))))), none, some (iv i), some (iv 3), x5]) dX11_digest_128 rfl rfl (by decide) rfl ?_
    refine e_goto (pc' := 59) dX11_digest_131 (by decide) ?_
    refine e_iload (pc' := 61) dX11_digest_59 rfl rfl ?_
    refine e_iconst (pc' := 62) dX11_digest_61 rfl ?_
    refine e_icmpI (pc' := 65) (t := 134) dX11_digest_62 (by decide) rfl ⟨by omega, by omega⟩ ⟨by omega, by omega⟩ (fun _ => ?_) (fun c4_5 => absurd (show 3 ≤ (3 : Int) by decide) c4_5)
    refine e_iinc (pc' := 137) (L' := [some (rv 88), some (jv ((31 * ((31 * ((31 * ((31 * ((31 * ((31 * ((31 * ((31 * ((31 * ((31 * hh) + (Int64.ofInt (ρ.1 2 i)))) + (Int64.ofInt (ρ.1 4 (i * 3 + 0))))) + (Int64.ofInt (ρ.1 5 (i * 3 + 0))))) + (Int64.ofInt (ρ.1 6 (i * 3 + 0))))) + (Int64.ofInt (ρ.1 4 (i * 3 + 1))))) + (Int64.ofInt (ρ.1 5 (i * 3 + 1))))) + (Int64.ofInt (ρ.1 6 (i * 3 + 1))))) + (Int64.ofInt (ρ.1 4 (i * 3 + 2))))) + (Int64.ofInt (ρ.1 5 (i * 3 + 2))))) + (Int64.ofInt (ρ.1 6 (i * 3 + 2))))), none, some (iv (i + 1)), some (iv 3), x5]) dX11_digest_134 rfl rfl (by decide) rfl ?_
    refine e_goto (pc' := 32) dX11_digest_137 (by decide) ?_
    exact ih _ _ _ _ (by omega) (by omega) (by omega) (by rw [fdJI_s _ hi0, ← hhe]; rfl)

set_option maxHeartbeats 4000000 in
set_option maxRecDepth 100000 in
theorem l_mdW {X : AX} {d : Nat} {σ ρ : SG} {Q : Option AV → SG → Prop} (h : MdI σ ρ 1) (hR : MrR (σ.1 89) ρ 1) (h0 : Int64) (hKc : ∀ (τ : SG) y3 y4 y5, MdI τ ρ 1 → Fr [88, 92, 93, 94, 95, 96, 97, 98, 99] σ τ → KA σ τ → Ev X 0 0 (d + 8) mX11_digest 203 [some (rv 88), some (jv (fdJI (dgw (ρ.1 3) (gfS ρ 1) (wdS ρ 1) (adS (ρ.1 1 11) (ρ.1 1 10) (wdS ρ 1))) (ρ.1 1 7) h0)), none, y3, y4, y5] [] τ Q) : ∀ (k : Nat) (i : Int) (hh : Int64) (τ : SG) (x4 x5 : Option AV), 0 ≤ i → i ≤ (ρ.1 1 7) → (ρ.1 1 7) - i < k → hh = fdJI (dgw (ρ.1 3) (gfS ρ 1) (wdS ρ 1) (adS (ρ.1 1 11) (ρ.1 1 10) (wdS ρ 1))) i h0 → MdI τ ρ 1 → Fr [88, 92, 93, 94, 95, 96, 97, 98, 99] σ τ → KA σ τ → Ev X 0 0 (d + 8) mX11_digest 142 [some (rv 88), some (jv hh), none, some (iv i), x4, x5] [] τ Q := by
  intro k
  induction k with
  | zero => intros; omega
  | succ k ih =>
  intro i hh τ x4 x5 hi0 hi1 hik hhe hM hF hK
  have ho := h.1
  have hX := h.2.1
  have hG := ho.1
  have hW := ho.2.1
  have hP := h.2.2.1
  refine e_iload_n (pc' := 143) dX11_digest_142 rfl rfl ?_
  refine e_aload_n (pc' := 144) dX11_digest_143 rfl rfl ?_
  refine e_cv0i (pc' := 147) dX11_digest_144 rfl k_11_84 h_88 rfl (Nat.le_of_ble_eq_true rfl) rfl rfl ⟨rfl, rfl⟩ ⟨Nat.zero_le _, Nat.zero_le _⟩ s_m_works ?_
  intro r σ' hr; rw [hr.1, hr.2, hM.2.2.1.1.2.1]; clear hr
  refine e_icmpI (pc' := 150) (t := 203) dX11_digest_147 (by decide) rfl ⟨by omega, by omega⟩ ⟨by omega, by omega⟩ (fun (c2_1 : (ρ.1 1 7) ≤ (i : Int)) => ?_) (fun (c2_1 : ¬ ((ρ.1 1 7) ≤ (i : Int))) => ?_)
  · rw [hhe, show i = (ρ.1 1 7) by omega]
    exact hKc τ _ _ _ hM hF hK
  · have hbn : τ.1 89 (50 + i) = ρ.1 3 i := by rw [(hF 89 (by decide)).1]; exact hP.2.2.1 i (by omega) (by omega)
    have hbr : 0 ≤ ρ.1 3 i ∧ ρ.1 3 i ≤ 60 := ho.2.2.2.2.2.2.2.1 i (by omega) (by omega)
    have hgf := gfS_rg ho i (by omega) (by omega)
    have hwd := wdS_rg ρ 1 i
    have had := adS_rg (md := ρ.1 1 11) ho.2.2.2.2.1 (fun w _ _ => wdS_rg ρ 1 w) i (by omega) (by omega)
    refine e_ldc2 (pc' := 153) dX11_digest_150 rfl c_11_258 ?_
    refine e_lload_n (pc' := 154) dX11_digest_153 rfl rfl ?_
    refine e_lmul (pc' := 155) dX11_digest_154 rfl ?_
    refine e_aload_n (pc' := 156) dX11_digest_155 rfl rfl ?_
    refine e_getR (pc' := 159) dX11_digest_156 rfl f_11_7 h_88 rfl ?_
    refine e_bipush (pc' := 161) (z := 50) dX11_digest_159 rfl (by decide) ?_
    refine e_iload_n (pc' := 162) dX11_digest_161 rfl rfl ?_
    refine e_iadd (pc' := 163) dX11_digest_162 rfl ?_
    refine e_iald (pc' := 164) (v := (ρ.1 3 i)) dX11_digest_163 rfl h_89 (by decide) (by omega) (by omega) hbn ?_
    refine e_i2l (pc' := 165) dX11_digest_164 rfl ⟨by omega, by omega⟩ ?_
    refine e_ladd (pc' := 166) dX11_digest_165 rfl ?_
    refine e_lstore_n (pc' := 167) (L' := [some (rv 88), some (jv ((31 * hh) + (Int64.ofInt (ρ.1 3 i)))), none, some (iv i), x4, x5]) dX11_digest_166 rfl (by decide) rfl ?_
    refine e_iconst (pc' := 168) dX11_digest_167 rfl ?_
    refine e_istore (pc' := 170) (L' := [some (rv 88), some (jv ((31 * hh) + (Int64.ofInt (ρ.1 3 i)))), none, some (iv i), some (iv 0), x5]) dX11_digest_168 rfl (by decide) rfl ?_
    refine e_iload (pc' := 172) dX11_digest_170 rfl rfl ?_
    refine e_iconst (pc' := 173) dX11_digest_172 rfl ?_
    refine e_icmpI (pc' := 176) (t := 197) dX11_digest_173 (by decide) rfl ⟨by omega, by omega⟩ ⟨by omega, by omega⟩ (fun c4_2 => absurd (show 4 ≤ (0 : Int) from c4_2) (by decide)) (fun _ => ?_)
    refine e_ldc2 (pc' := 179) dX11_digest_176 rfl c_11_258 ?_
    refine e_lload_n (pc' := 180) dX11_digest_179 rfl rfl ?_
    refine e_lmul (pc' := 181) dX11_digest_180 rfl ?_
    refine e_aload_n (pc' := 182) dX11_digest_181 rfl rfl ?_
    refine e_iload_n (pc' := 183) dX11_digest_182 rfl rfl ?_
    refine e_iload (pc' := 185) dX11_digest_183 rfl rfl ?_
    refine e_cv2i (pc' := 188) dX11_digest_185 rfl k_11_263 h_88 rfl (Nat.le_of_ble_eq_true rfl) rfl rfl ⟨rfl, rfl⟩ ⟨Nat.zero_le _, Nat.zero_le _⟩ (s_m_amount hM i 0 ⟨by omega, by omega⟩ ⟨by decide, by decide⟩) ?_
    rintro z1 τ1 ⟨hz1, hE1, hJ1, hM1⟩
    rw [if_pos ⟨hi0, by omega⟩, if_pos rfl] at hz1
    rw [hz1]
    have hF1 : Fr [88, 92, 93, 94, 95, 96, 97, 98, 99] σ τ1 := hF.tr hE1
    have hK1 : KA σ τ1 := hK.tr hJ1
    refine e_i2l (pc' := 189) dX11_digest_188 rfl ⟨by omega, by omega⟩ ?_
    refine e_ladd (pc' := 190) dX11_digest_189 rfl ?_
    refine e_lstore_n (pc' := 191) (L' := [some (rv 88), some (jv ((31 * ((31 * hh) + (Int64.ofInt (ρ.1 3 i)))) + (Int64.ofInt (gfS ρ 1 i)))), none, some (iv i), some (iv 0), x5]) dX11_digest_190 rfl (by decide) rfl ?_
    refine e_iinc (pc' := 194) (L' := [some (rv 88), some (jv ((31 * ((31 * hh) + (Int64.ofInt (ρ.1 3 i)))) + (Int64.ofInt (gfS ρ 1 i)))), none, some (iv i), some (iv 1), x5]) dX11_digest_191 rfl rfl (by decide) rfl ?_
    refine e_goto (pc' := 170) dX11_digest_194 (by decide) ?_
    refine e_iload (pc' := 172) dX11_digest_170 rfl rfl ?_
    refine e_iconst (pc' := 173) dX11_digest_172 rfl ?_
    refine e_icmpI (pc' := 176) (t := 197) dX11_digest_173 (by decide) rfl ⟨by omega, by omega⟩ ⟨by omega, by omega⟩ (fun c4_3 => absurd (show 4 ≤ (1 : Int) from c4_3) (by decide)) (fun _ => ?_)
    refine e_ldc2 (pc' := 179) dX11_digest_176 rfl c_11_258 ?_
    refine e_lload_n (pc' := 180) dX11_digest_179 rfl rfl ?_
    refine e_lmul (pc' := 181) dX11_digest_180 rfl ?_
    refine e_aload_n (pc' := 182) dX11_digest_181 rfl rfl ?_
    refine e_iload_n (pc' := 183) dX11_digest_182 rfl rfl ?_
    refine e_iload (pc' := 185) dX11_digest_183 rfl rfl ?_
    refine e_cv2i (pc' := 188) dX11_digest_185 rfl k_11_263 h_88 rfl (Nat.le_of_ble_eq_true rfl) rfl rfl ⟨rfl, rfl⟩ ⟨Nat.zero_le _, Nat.zero_le _⟩ (s_m_amount hM1 i 1 ⟨by omega, by omega⟩ ⟨by decide, by decide⟩) ?_
    rintro z2 τ2 ⟨hz2, hE2, hJ2, hM2⟩
    rw [if_pos ⟨hi0, by omega⟩, if_neg (by decide), if_pos rfl] at hz2
    rw [hz2]
    have hF2 : Fr [88, 92, 93, 94, 95, 96, 97, 98, 99] σ τ2 := hF1.tr hE2
    have hK2 : KA σ τ2 := hK1.tr hJ2
    refine e_i2l (pc' := 189) dX11_digest_188 rfl ⟨by omega, by omega⟩ ?_
    refine e_ladd (pc' := 190) dX11_digest_189 rfl ?_
    refine e_lstore_n (pc' := 191) (L' := [some (rv 88), some (jv ((31 * ((31 * ((31 * hh) + (Int64.ofInt (ρ.1 3 i)))) + (Int64.ofInt (gfS ρ 1 i)))) + (Int64.ofInt (wdS ρ 1 i)))), none, some (iv i), some (iv 1), x5]) dX11_digest_190 rfl (by decide) rfl ?_
    refine e_iinc (pc' := 194) (L' := [some (rv 88), some (jv ((31 * ((31 * ((31 * hh) + (Int64.ofInt (ρ.1 3 i)))) + (Int64.ofInt (gfS ρ 1 i)))) + (Int64.ofInt (wdS ρ 1 i)))), none, some (iv i), some (iv 2), x5]) dX11_digest_191 rfl rfl (by decide) rfl ?_
    refine e_goto (pc' := 170) dX11_digest_194 (by decide) ?_
    refine e_iload (pc' := 172) dX11_digest_170 rfl rfl ?_
    refine e_iconst (pc' := 173) dX11_digest_172 rfl ?_
    refine e_icmpI (pc' := 176) (t := 197) dX11_digest_173 (by decide) rfl ⟨by omega, by omega⟩ ⟨by omega, by omega⟩ (fun c4_4 => absurd (show 4 ≤ (2 : Int) from c4_4) (by decide)) (fun _ => ?_)
    refine e_ldc2 (pc' := 179) dX11_digest_176 rfl c_11_258 ?_
    refine e_lload_n (pc' := 180) dX11_digest_179 rfl rfl ?_
    refine e_lmul (pc' := 181) dX11_digest_180 rfl ?_
    refine e_aload_n (pc' := 182) dX11_digest_181 rfl rfl ?_
    refine e_iload_n (pc' := 183) dX11_digest_182 rfl rfl ?_
    refine e_iload (pc' := 185) dX11_digest_183 rfl rfl ?_
    refine e_cv2i (pc' := 188) dX11_digest_185 rfl k_11_263 h_88 rfl (Nat.le_of_ble_eq_true rfl) rfl rfl ⟨rfl, rfl⟩ ⟨Nat.zero_le _, Nat.zero_le _⟩ (s_m_amount hM2 i 2 ⟨by omega, by omega⟩ ⟨by decide, by decide⟩) ?_
    rintro z3 τ3 ⟨hz3, hE3, hJ3, hM3⟩
    rw [if_pos ⟨hi0, by omega⟩, if_neg (by decide), if_neg (by decide), if_pos rfl] at hz3
    rw [hz3]
    have hF3 : Fr [88, 92, 93, 94, 95, 96, 97, 98, 99] σ τ3 := hF2.tr hE3
    have hK3 : KA σ τ3 := hK2.tr hJ3
    refine e_i2l (pc' := 189) dX11_digest_188 rfl ⟨by omega, by omega⟩ ?_
    refine e_ladd (pc' := 190) dX11_digest_189 rfl ?_
    refine e_lstore_n (pc' := 191) (L' := [some (rv 88), some (jv ((31 * ((31 * ((31 * ((31 * hh) + (Int64.ofInt (ρ.1 3 i)))) + (Int64.ofInt (gfS ρ 1 i)))) + (Int64.ofInt (wdS ρ 1 i)))) + (Int64.ofInt (adS (ρ.1 1 11) (ρ.1 1 10) (wdS ρ 1) i)))), none, some (iv i), some (iv 2), x5]) dX11_digest_190 rfl (by decide) rfl ?_
    refine e_iinc (pc' := 194) (L' := [some (rv 88), some (jv ((31 * ((31 * ((31 * ((31 * hh) + (Int64.ofInt (ρ.1 3 i)))) + (Int64.ofInt (gfS ρ 1 i)))) + (Int64.ofInt (wdS ρ 1 i)))) + (Int64.ofInt (adS (ρ.1 1 11) (ρ.1 1 10) (wdS ρ 1) i)))), none, some (iv i), some (iv 3), x5]) dX11_digest_191 rfl rfl (by decide) rfl ?_
    refine e_goto (pc' := 170) dX11_digest_194 (by decide) ?_
    refine e_iload (pc' := 172) dX11_digest_170 rfl rfl ?_
    refine e_iconst (pc' := 173) dX11_digest_172 rfl ?_
    refine e_icmpI (pc' := 176) (t := 197) dX11_digest_173 (by decide) rfl ⟨by omega, by omega⟩ ⟨by omega, by omega⟩ (fun c4_5 => absurd (show 4 ≤ (3 : Int) from c4_5) (by decide)) (fun _ => ?_)
    refine e_ldc2 (pc' := 179) dX11_digest_176 rfl c_11_258 ?_
    refine e_lload_n (pc' := 180) dX11_digest_179 rfl rfl ?_
    refine e_lmul (pc' := 181) dX11_digest_180 rfl ?_
    refine e_aload_n (pc' := 182) dX11_digest_181 rfl rfl ?_
    refine e_iload_n (pc' := 183) dX11_digest_182 rfl rfl ?_
    refine e_iload (pc' := 185) dX11_digest_183 rfl rfl ?_
    refine e_cv2i (pc' := 188) dX11_digest_185 rfl k_11_263 h_88 rfl (Nat.le_of_ble_eq_true rfl) rfl rfl ⟨rfl, rfl⟩ ⟨Nat.zero_le _, Nat.zero_le _⟩ (s_m_amount hM3 i 3 ⟨by omega, by omega⟩ ⟨by decide, by decide⟩) ?_
    rintro z4 τ4 ⟨hz4, hE4, hJ4, hM4⟩
    rw [if_pos ⟨hi0, by omega⟩, if_neg (by decide), if_neg (by decide), if_neg (by decide), if_pos rfl] at hz4
    rw [hz4]
    have hF4 : Fr [88, 92, 93, 94, 95, 96, 97, 98, 99] σ τ4 := hF3.tr hE4
    have hK4 : KA σ τ4 := hK3.tr hJ4
    refine e_i2l (pc' := 189) dX11_digest_188 rfl ⟨by omega, by omega⟩ ?_
    refine e_ladd (pc' := 190) dX11_digest_189 rfl ?_
    refine e_lstore_n (pc' := 191) (L' := [some (rv 88), some (jv ((31 * ((31 * ((31 * ((31 * ((31 * hh) + (Int64.ofInt (ρ.1 3 i)))) + (Int64.ofInt (gfS ρ 1 i)))) + (Int64.ofInt (wdS ρ 1 i)))) + (Int64.ofInt (adS (ρ.1 1 11) (ρ.1 1 10) (wdS ρ 1) i)))) + (Int64.ofInt (gfS ρ 1 i + adS (ρ.1 1 11) (ρ.1 1 10) (wdS ρ 1) i)))), none, some (iv i), some (iv 3), x5]) dX11_digest_190 rfl (by decide) rfl ?_
    refine e_iinc (pc' := 194) (L' := [some (rv 88), some (jv ((31 * ((31 * ((31 * ((31 * ((31 * hh) + (Int64.ofInt (ρ.1 3 i)))) + (Int64.ofInt (gfS ρ 1 i)))) + (Int64.ofInt (wdS ρ 1 i)))) + (Int64.ofInt (adS (ρ.1 1 11) (ρ.1 1 10) (wdS ρ 1) i)))) + (Int64.ofInt (gfS ρ 1 i + adS (ρ.1 1 11) (ρ.1 1 10) (wdS ρ 1) i)))), none, some (iv i), some (iv 4), x5]) dX11_digest_191 rfl rfl (by decide) rfl ?_
    refine e_goto (pc' := 170) dX11_digest_194 (by decide) ?_
    refine e_iload (pc' := 172) dX11_digest_170 rfl rfl ?_
    refine e_iconst (pc' := 173) dX11_digest_172 rfl ?_
    refine e_icmpI (pc' := 176) (t := 197) dX11_digest_173 (by decide) rfl ⟨by omega, by omega⟩ ⟨by omega, by omega⟩ (fun _ => ?_) (fun c4_6 => absurd (show 4 ≤ (4 : Int) by decide) c4_6)
    refine e_iinc (pc' := 200) (L' := [some (rv 88), some (jv ((31 * ((31 * ((31 * ((31 * ((31 * hh) + (Int64.ofInt (ρ.1 3 i)))) + (Int64.ofInt (gfS ρ 1 i)))) + (Int64.ofInt (wdS ρ 1 i)))) + (Int64.ofInt (adS (ρ.1 1 11) (ρ.1 1 10) (wdS ρ 1) i)))) + (Int64.ofInt (gfS ρ 1 i + adS (ρ.1 1 11) (ρ.1 1 10) (wdS ρ 1) i)))), none, some (iv (i + 1)), some (iv 4), x5]) dX11_digest_197 rfl rfl (by decide) rfl ?_
    refine e_goto (pc' := 142) dX11_digest_200 (by decide) ?_
    exact ih _ _ τ4 _ _ (by omega) (by omega) (by omega) (by rw [fdJI_s _ hi0, ← hhe]; unfold dgw hj; rw [hj_31]) hM4 hF4 hK4

set_option maxHeartbeats 4000000 in
set_option maxRecDepth 100000 in
theorem l_mdR_0 {X : AX} {d : Nat} {τ ρ : SG} {Q : Option AV → SG → Prop} (hR : MrR (τ.1 89) ρ 1) (h0 : Int64) (hK : ∀ y5, Ev X 0 0 (d + 8) mX11_digest 293 [some (rv 88), some (jv (dgr (ρ.1 8 2) (ρ.1 9) h0)), none, some (iv 0), some (iv (ρ.1 8 2)), y5] [] τ Q) : ∀ (k : Nat) (i : Int) (hh : Int64), 0 ≤ i → i ≤ (ρ.1 8 2) + 1 → (ρ.1 8 2) + 1 - i < k → hh = (if i = 0 then h0 else fdJI (fun k h => hj h ((ρ.1 9) k)) (i - 1) (hj h0 (ρ.1 8 2))) → Ev X 0 0 (d + 8) mX11_digest 257 [some (rv 88), some (jv hh), none, some (iv 0), some (iv (ρ.1 8 2)), some (iv i)] [] τ Q := by
  intro k
  induction k with
  | zero => intros; omega
  | succ k ih =>
  intro i hh hi0 hi1 hik hhe
  obtain ⟨k1, k2, k3⟩ := hR.2 0 (by decide) (by decide)
  obtain ⟨nn, hnn, hn2, hch, hu3, hu4, hu5⟩ := k1
  change ρ.1 8 2 = (nn : Int) at hn2
  change τ.1 89 (57 + 41 * 0) = ρ.1 8 2 at k2
  change ∀ k, 0 ≤ k → k < ρ.1 8 2 → τ.1 89 (57 + 41 * 0 + 1 + k) = ρ.1 9 k at k3
  change ∀ j, 0 ≤ j → j < 40 → chr7 (ρ.1 9 j) at hch
  refine e_iload (pc' := 259) dX11_digest_257 rfl rfl ?_
  refine e_iload (pc' := 261) dX11_digest_259 rfl rfl ?_
  refine e_icmpI (pc' := 264) (t := 293) dX11_digest_261 (by decide) rfl ⟨by omega, by omega⟩ ⟨by omega, by omega⟩ (fun (c2_1 : (ρ.1 8 2) < (i : Int)) => ?_) (fun (c2_1 : ¬ ((ρ.1 8 2) < (i : Int))) => ?_)
  · have e : hh = (dgr (ρ.1 8 2) (ρ.1 9) h0) := by rw [hhe, if_neg (by omega), show i - 1 = (ρ.1 8 2) by omega]; rfl
    rw [e]
    exact hK _
  · obtain ⟨v, hv, hvr, hve⟩ : ∃ v, τ.1 89 ((57 + (41 * 0)) + i) = v ∧ (0 ≤ v ∧ v ≤ 127) ∧ v = (if i = 0 then (ρ.1 8 2) else (ρ.1 9) (i - 1)) := by
      by_cases q : i = 0
      · refine ⟨(ρ.1 8 2), ?_, ⟨by omega, by omega⟩, by rw [if_pos q]⟩
        rw [q]; exact k2
      · have c7 := hch (i - 1) (by omega) (by omega)
        refine ⟨(ρ.1 9) (i - 1), ?_, ⟨c7.1, c7.2⟩, by rw [if_neg q]⟩
        rw [show (57 + (41 * 0)) + i = 57 + 41 * 0 + 1 + (i - 1) by omega]
        exact k3 (i - 1) (by omega) (by omega)
    refine e_ldc2 (pc' := 267) dX11_digest_264 rfl c_11_258 ?_
    refine e_lload_n (pc' := 268) dX11_digest_267 rfl rfl ?_
    refine e_lmul (pc' := 269) dX11_digest_268 rfl ?_
    refine e_aload_n (pc' := 270) dX11_digest_269 rfl rfl ?_
    refine e_getR (pc' := 273) dX11_digest_270 rfl f_11_7 h_88 rfl ?_
    refine e_bipush (pc' := 275) (z := 57) dX11_digest_273 rfl (by decide) ?_
    refine e_bipush (pc' := 277) (z := 41) dX11_digest_275 rfl (by decide) ?_
    refine e_iload_n (pc' := 278) dX11_digest_277 rfl rfl ?_
    refine e_imul (pc' := 279) dX11_digest_278 rfl ?_
    refine e_iadd (pc' := 280) dX11_digest_279 rfl ?_
    refine e_iload (pc' := 282) dX11_digest_280 rfl rfl ?_
    refine e_iadd (pc' := 283) dX11_digest_282 rfl ?_
    refine e_iald (pc' := 284) (v := v) dX11_digest_283 rfl h_89 (by decide) (by omega) (by omega) hv ?_
    refine e_i2l (pc' := 285) dX11_digest_284 rfl ⟨by omega, by omega⟩ ?_
    refine e_ladd (pc' := 286) dX11_digest_285 rfl ?_
    refine e_lstore_n (pc' := 287) (L' := [some (rv 88), some (jv ((31 * hh) + (Int64.ofInt v))), none, some (iv 0), some (iv (ρ.1 8 2)), some (iv i)]) dX11_digest_286 rfl (by decide) rfl ?_
    refine e_iinc (pc' := 290) (L' := [some (rv 88), some (jv ((31 * hh) + (Int64.ofInt v))), none, some (iv 0), some (iv (ρ.1 8 2)), some (iv (i + 1))]) dX11_digest_287 rfl rfl (by decide) rfl ?_
    refine e_goto (pc' := 257) dX11_digest_290 (by decide) ?_
    refine ih _ _ (by omega) (by omega) (by omega) ?_
    rw [if_neg (by omega), hhe, hve, show i + 1 - 1 = i by omega]
    by_cases q : i = 0
    · rw [if_pos q, if_pos q, q]; rfl
    · rw [if_neg q, if_neg q]
      have e := fdJI_s (fun k h => hj h ((ρ.1 9) k)) (i := i - 1) (by omega) (hj h0 (ρ.1 8 2))
      rw [show i - 1 + 1 = i by omega] at e
      rw [e]
      rfl

set_option maxHeartbeats 4000000 in
set_option maxRecDepth 100000 in
theorem l_mdR_1 {X : AX} {d : Nat} {τ ρ : SG} {Q : Option AV → SG → Prop} (hR : MrR (τ.1 89) ρ 1) (h0 : Int64) (hK : ∀ y5, Ev X 0 0 (d + 8) mX11_digest 293 [some (rv 88), some (jv (dgr (ρ.1 11 2) (ρ.1 12) h0)), none, some (iv 1), some (iv (ρ.1 11 2)), y5] [] τ Q) : ∀ (k : Nat) (i : Int) (hh : Int64), 0 ≤ i → i ≤ (ρ.1 11 2) + 1 → (ρ.1 11 2) + 1 - i < k → hh = (if i = 0 then h0 else fdJI (fun k h => hj h ((ρ.1 12) k)) (i - 1) (hj h0 (ρ.1 11 2))) → Ev X 0 0 (d + 8) mX11_digest 257 [some (rv 88), some (jv hh), none, some (iv 1), some (iv (ρ.1 11 2)), some (iv i)] [] τ Q := by
  intro k
  induction k with
  | zero => intros; omega
  | succ k ih =>
  intro i hh hi0 hi1 hik hhe
  obtain ⟨k1, k2, k3⟩ := hR.2 1 (by decide) (by decide)
  obtain ⟨nn, hnn, hn2, hch, hu3, hu4, hu5⟩ := k1
  change ρ.1 11 2 = (nn : Int) at hn2
  change τ.1 89 (57 + 41 * 1) = ρ.1 11 2 at k2
  change ∀ k, 0 ≤ k → k < ρ.1 11 2 → τ.1 89 (57 + 41 * 1 + 1 + k) = ρ.1 12 k at k3
  change ∀ j, 0 ≤ j → j < 40 → chr7 (ρ.1 12 j) at hch
  refine e_iload (pc' := 259) dX11_digest_257 rfl rfl ?_
  refine e_iload (pc' := 261) dX11_digest_259 rfl rfl ?_
  refine e_icmpI (pc' := 264) (t := 293) dX11_digest_261 (by decide) rfl ⟨by omega, by omega⟩ ⟨by omega, by omega⟩ (fun (c2_1 : (ρ.1 11 2) < (i : Int)) => ?_) (fun (c2_1 : ¬ ((ρ.1 11 2) < (i : Int))) => ?_)
  · have e : hh = (dgr (ρ.1 11 2) (ρ.1 12) h0) := by rw [hhe, if_neg (by omega), show i - 1 = (ρ.1 11 2) by omega]; rfl
    rw [e]
    exact hK _
  · obtain ⟨v, hv, hvr, hve⟩ : ∃ v, τ.1 89 ((57 + (41 * 1)) + i) = v ∧ (0 ≤ v ∧ v ≤ 127) ∧ v = (if i = 0 then (ρ.1 11 2) else (ρ.1 12) (i - 1)) := by
      by_cases q : i = 0
      · refine ⟨(ρ.1 11 2), ?_, ⟨by omega, by omega⟩, by rw [if_pos q]⟩
        rw [q]; exact k2
      · have c7 := hch (i - 1) (by omega) (by omega)
        refine ⟨(ρ.1 12) (i - 1), ?_, ⟨c7.1, c7.2⟩, by rw [if_neg q]⟩
        rw [show (57 + (41 * 1)) + i = 57 + 41 * 1 + 1 + (i - 1) by omega]
        exact k3 (i - 1) (by omega) (by omega)
    refine e_ldc2 (pc' := 267) dX11_digest_264 rfl c_11_258 ?_
    refine e_lload_n (pc' := 268) dX11_digest_267 rfl rfl ?_
    refine e_lmul (pc' := 269) dX11_digest_268 rfl ?_
    refine e_aload_n (pc' := 270) dX11_digest_269 rfl rfl ?_
    refine e_getR (pc' := 273) dX11_digest_270 rfl f_11_7 h_88 rfl ?_
    refine e_bipush (pc' := 275) (z := 57) dX11_digest_273 rfl (by decide) ?_
    refine e_bipush (pc' := 277) (z := 41) dX11_digest_275 rfl (by decide) ?_
    refine e_iload_n (pc' := 278) dX11_digest_277 rfl rfl ?_
    refine e_imul (pc' := 279) dX11_digest_278 rfl ?_
    refine e_iadd (pc' := 280) dX11_digest_279 rfl ?_
    refine e_iload (pc' := 282) dX11_digest_280 rfl rfl ?_
    refine e_iadd (pc' := 283) dX11_digest_282 rfl ?_
    refine e_iald (pc' := 284) (v := v) dX11_digest_283 rfl h_89 (by decide) (by omega) (by omega) hv ?_
    refine e_i2l (pc' := 285) dX11_digest_284 rfl ⟨by omega, by omega⟩ ?_
    refine e_ladd (pc' := 286) dX11_digest_285 rfl ?_
    refine e_lstore_n (pc' := 287) (L' := [some (rv 88), some (jv ((31 * hh) + (Int64.ofInt v))), none, some (iv 1), some (iv (ρ.1 11 2)), some (iv i)]) dX11_digest_286 rfl (by decide) rfl ?_
    refine e_iinc (pc' := 290) (L' := [some (rv 88), some (jv ((31 * hh) + (Int64.ofInt v))), none, some (iv 1), some (iv (ρ.1 11 2)), some (iv (i + 1))]) dX11_digest_287 rfl rfl (by decide) rfl ?_
    refine e_goto (pc' := 257) dX11_digest_290 (by decide) ?_
    refine ih _ _ (by omega) (by omega) (by omega) ?_
    rw [if_neg (by omega), hhe, hve, show i + 1 - 1 = i by omega]
    by_cases q : i = 0
    · rw [if_pos q, if_pos q, q]; rfl
    · rw [if_neg q, if_neg q]
      have e := fdJI_s (fun k h => hj h ((ρ.1 12) k)) (i := i - 1) (by omega) (hj h0 (ρ.1 11 2))
      rw [show i - 1 + 1 = i by omega] at e
      rw [e]
      rfl

set_option maxHeartbeats 4000000 in
set_option maxRecDepth 100000 in
theorem l_mdR_2 {X : AX} {d : Nat} {τ ρ : SG} {Q : Option AV → SG → Prop} (hR : MrR (τ.1 89) ρ 1) (h0 : Int64) (hK : ∀ y5, Ev X 0 0 (d + 8) mX11_digest 293 [some (rv 88), some (jv (dgr (ρ.1 14 2) (ρ.1 15) h0)), none, some (iv 2), some (iv (ρ.1 14 2)), y5] [] τ Q) : ∀ (k : Nat) (i : Int) (hh : Int64), 0 ≤ i → i ≤ (ρ.1 14 2) + 1 → (ρ.1 14 2) + 1 - i < k → hh = (if i = 0 then h0 else fdJI (fun k h => hj h ((ρ.1 15) k)) (i - 1) (hj h0 (ρ.1 14 2))) → Ev X 0 0 (d + 8) mX11_digest 257 [some (rv 88), some (jv hh), none, some (iv 2), some (iv (ρ.1 14 2)), some (iv i)] [] τ Q := by
  intro k
  induction k with
  | zero => intros; omega
  | succ k ih =>
  intro i hh hi0 hi1 hik hhe
  obtain ⟨k1, k2, k3⟩ := hR.2 2 (by decide) (by decide)
  obtain ⟨nn, hnn, hn2, hch, hu3, hu4, hu5⟩ := k1
  change ρ.1 14 2 = (nn : Int) at hn2
  change τ.1 89 (57 + 41 * 2) = ρ.1 14 2 at k2
  change ∀ k, 0 ≤ k → k < ρ.1 14 2 → τ.1 89 (57 + 41 * 2 + 1 + k) = ρ.1 15 k at k3
  change ∀ j, 0 ≤ j → j < 40 → chr7 (ρ.1 15 j) at hch
  refine e_iload (pc' := 259) dX11_digest_257 rfl rfl ?_
  refine e_iload (pc' := 261) dX11_digest_259 rfl rfl ?_
  refine e_icmpI (pc' := 264) (t := 293) dX11_digest_261 (by decide) rfl ⟨by omega, by omega⟩ ⟨by omega, by omega⟩ (fun (c2_1 : (ρ.1 14 2) < (i : Int)) => ?_) (fun (c2_1 : ¬ ((ρ.1 14 2) < (i : Int))) => ?_)
  · have e : hh = (dgr (ρ.1 14 2) (ρ.1 15) h0) := by rw [hhe, if_neg (by omega), show i - 1 = (ρ.1 14 2) by omega]; rfl
    rw [e]
    exact hK _
  · obtain ⟨v, hv, hvr, hve⟩ : ∃ v, τ.1 89 ((57 + (41 * 2)) + i) = v ∧ (0 ≤ v ∧ v ≤ 127) ∧ v = (if i = 0 then (ρ.1 14 2) else (ρ.1 15) (i - 1)) := by
      by_cases q : i = 0
      · refine ⟨(ρ.1 14 2), ?_, ⟨by omega, by omega⟩, by rw [if_pos q]⟩
        rw [q]; exact k2
      · have c7 := hch (i - 1) (by omega) (by omega)
        refine ⟨(ρ.1 15) (i - 1), ?_, ⟨c7.1, c7.2⟩, by rw [if_neg q]⟩
        rw [show (57 + (41 * 2)) + i = 57 + 41 * 2 + 1 + (i - 1) by omega]
        exact k3 (i - 1) (by omega) (by omega)
    refine e_ldc2 (pc' := 267) dX11_digest_264 rfl c_11_258 ?_
    refine e_lload_n (pc' := 268) dX11_digest_267 rfl rfl ?_
    refine e_lmul (pc' := 269) dX11_digest_268 rfl ?_
    refine e_aload_n (pc' := 270) dX11_digest_269 rfl rfl ?_
    refine e_getR (pc' := 273) dX11_digest_270 rfl f_11_7 h_88 rfl ?_
    refine e_bipush (pc' := 275) (z := 57) dX11_digest_273 rfl (by decide) ?_
    refine e_bipush (pc' := 277) (z := 41) dX11_digest_275 rfl (by decide) ?_
    refine e_iload_n (pc' := 278) dX11_digest_277 rfl rfl ?_
    refine e_imul (pc' := 279) dX11_digest_278 rfl ?_
    refine e_iadd (pc' := 280) dX11_digest_279 rfl ?_
    refine e_iload (pc' := 282) dX11_digest_280 rfl rfl ?_
    refine e_iadd (pc' := 283) dX11_digest_282 rfl ?_
    refine e_iald (pc' := 284) (v := v) dX11_digest_283 rfl h_89 (by decide) (by omega) (by omega) hv ?_
    refine e_i2l (pc' := 285) dX11_digest_284 rfl ⟨by omega, by omega⟩ ?_
    refine e_ladd (pc' := 286) dX11_digest_285 rfl ?_
    refine e_lstore_n (pc' := 287) (L' := [some (rv 88), some (jv ((31 * hh) + (Int64.ofInt v))), none, some (iv 2), some (iv (ρ.1 14 2)), some (iv i)]) dX11_digest_286 rfl (by decide) rfl ?_
    refine e_iinc (pc' := 290) (L' := [some (rv 88), some (jv ((31 * hh) + (Int64.ofInt v))), none, some (iv 2), some (iv (ρ.1 14 2)), some (iv (i + 1))]) dX11_digest_287 rfl rfl (by decide) rfl ?_
    refine e_goto (pc' := 257) dX11_digest_290 (by decide) ?_
    refine ih _ _ (by omega) (by omega) (by omega) ?_
    rw [if_neg (by omega), hhe, hve, show i + 1 - 1 = i by omega]
    by_cases q : i = 0
    · rw [if_pos q, if_pos q, q]; rfl
    · rw [if_neg q, if_neg q]
      have e := fdJI_s (fun k h => hj h ((ρ.1 15) k)) (i := i - 1) (by omega) (hj h0 (ρ.1 14 2))
      rw [show i - 1 + 1 = i by omega] at e
      rw [e]
      rfl

set_option maxHeartbeats 4000000 in
set_option maxRecDepth 100000 in
theorem l_md203 {X : AX} {d : Nat} {σ ρ : SG} (h : MdI σ ρ 1) (hR : MrR (σ.1 89) ρ 1) (h0 : Int64) (τ : SG) (x3 x4 x5 : Option AV) (hMτ : MdI τ ρ 1) (hF : Fr [88, 92, 93, 94, 95, 96, 97, 98, 99] σ τ) (hK : KA σ τ) : Ev X 0 0 (d + 8) mX11_digest 203 [some (rv 88), some (jv h0), none, x3, x4, x5] [] τ (QJ (fun v σ' => v = (hj (dgr (ρ.1 14 2) (ρ.1 15) (dgr (ρ.1 11 2) (ρ.1 12) (dgr (ρ.1 8 2) (ρ.1 9) (hj (hj (hj (hj h0 (ρ.1 1 8)) (ρ.1 1 9)) (ρ.1 1 10)) (ρ.1 1 11))))) (smI (fun g => bfS ρ 1 g) (ρ.1 1 6))) ∧ Fr [88, 92, 93, 94, 95, 96, 97, 98, 99] σ σ' ∧ KA σ σ' ∧ MdI σ' ρ 1)) := by
  have ho := h.1
  have hX := h.2.1
  have hG := ho.1
  have hW := ho.2.1
  have hP := h.2.2.1
  have hPτ := hMτ.2.2.1
  have hRτ : MrR (τ.1 89) ρ 1 := by rw [(hF 89 (by decide)).1]; exact hR
  have q8 := ho.2.2.1
  have q9 := ho.2.2.2.1
  have q10 := ho.2.2.2.2.1
  have q11 := ho.2.2.2.2.2.1
  have hb5 := smI_5 (f := fun g => bfS ρ 1 g) (M := 1000000) (by decide) hG (fun g a c => (ch_ok ho hX ⟨a, c⟩).2.2)
  refine e_iconst (pc' := 204) dX11_digest_203 rfl ?_
  refine e_istore_n (pc' := 205) (L' := [some (rv 88), some (jv h0), none, some (iv 0), x4, x5]) dX11_digest_204 rfl (by decide) rfl ?_
  refine e_iload_n (pc' := 206) dX11_digest_205 rfl rfl ?_
  refine e_iconst (pc' := 207) dX11_digest_206 rfl ?_
  refine e_icmpI (pc' := 210) (t := 233) dX11_digest_207 (by decide) rfl ⟨by omega, by omega⟩ ⟨by omega, by omega⟩ (fun c2_1 => absurd (show 4 ≤ (0 : Int) from c2_1) (by decide)) (fun _ => ?_)
  refine e_ldc2 (pc' := 213) dX11_digest_210 rfl c_11_258 ?_
  refine e_lload_n (pc' := 214) dX11_digest_213 rfl rfl ?_
  refine e_lmul (pc' := 215) dX11_digest_214 rfl ?_
  refine e_aload_n (pc' := 216) dX11_digest_215 rfl rfl ?_
  refine e_getR (pc' := 219) dX11_digest_216 rfl f_11_7 h_88 rfl ?_
  refine e_bipush (pc' := 221) (z := 53) dX11_digest_219 rfl (by decide) ?_
  refine e_iload_n (pc' := 222) dX11_digest_221 rfl rfl ?_
  refine e_iadd (pc' := 223) dX11_digest_222 rfl ?_
  refine e_iald (pc' := 224) (v := (ρ.1 1 8)) dX11_digest_223 rfl h_89 (by decide) (by omega) (by omega) hPτ.1.2.2 ?_
  refine e_i2l (pc' := 225) dX11_digest_224 rfl (by first | exact ⟨by omega, by omega⟩ | exact hbs) ?_
  refine e_ladd (pc' := 226) dX11_digest_225 rfl ?_
  refine e_lstore_n (pc' := 227) (L' := [some (rv 88), some (jv ((31 * h0) + (Int64.ofInt (ρ.1 1 8)))), none, some (iv 0), x4, x5]) dX11_digest_226 rfl (by decide) rfl ?_
  refine e_iinc (pc' := 230) (L' := [some (rv 88), some (jv ((31 * h0) + (Int64.ofInt (ρ.1 1 8)))), none, some (iv 1), x4, x5]) dX11_digest_227 rfl rfl (by decide) rfl ?_
  refine e_goto (pc' := 205) dX11_digest_230 (by decide) ?_
  refine e_iload_n (pc' := 206) dX11_digest_205 rfl rfl ?_
  refine e_iconst (pc' := 207) dX11_digest_206 rfl ?_
  refine e_icmpI (pc' := 210) (t := 233) dX11_digest_207 (by decide) rfl ⟨by omega, by omega⟩ ⟨by omega, by omega⟩ (fun c2_2 => absurd (show 4 ≤ (1 : Int) from c2_2) (by decide)) (fun _ => ?_)
  refine e_ldc2 (pc' := 213) dX11_digest_210 rfl c_11_258 ?_
  refine e_lload_n (pc' := 214) dX11_digest_213 rfl rfl ?_
  refine e_lmul (pc' := 215) dX11_digest_214 rfl ?_
  refine e_aload_n (pc' := 216) dX11_digest_215 rfl rfl ?_
  refine e_getR (pc' := 219) dX11_digest_216 rfl f_11_7 h_88 rfl ?_
  refine e_bipush (pc' := 221) (z := 53) dX11_digest_219 rfl (by decide) ?_
  refine e_iload_n (pc' := 222) dX11_digest_221 rfl rfl ?_
  refine e_iadd (pc' := 223) dX11_digest_222 rfl ?_
  refine e_iald (pc' := 224) (v := (ρ.1 1 9)) dX11_digest_223 rfl h_89 (by decide) (by omega) (by omega) hRτ.1.1 ?_
  refine e_i2l (pc' := 225) dX11_digest_224 rfl (by first | exact ⟨by omega, by omega⟩ | exact hbs) ?_
  refine e_ladd (pc' := 226) dX11_digest_225 rfl ?_
  refine e_lstore_n (pc' := 227) (L' := [some (rv 88), some (jv ((31 * ((31 * h0) + (Int64.ofInt (ρ.1 1 8)))) + (Int64.ofInt (ρ.1 1 9)))), none, some (iv 1), x4, x5]) dX11_digest_226 rfl (by decide) rfl ?_
  refine e_iinc (pc' := 230) (L' := [some (rv 88), some (jv ((31 * ((31 * h0) + (Int64.ofInt (ρ.1 1 8)))) + (Int64.ofInt (ρ.1 1 9)))), none, some (iv 2), x4, x5]) dX11_digest_227 rfl rfl (by decide) rfl ?_
  refine e_goto (pc' := 205) dX11_digest_230 (by decide) ?_
  refine e_iload_n (pc' := 206) dX11_digest_205 rfl rfl ?_
  refine e_iconst (pc' := 207) dX11_digest_206 rfl ?_
  refine e_icmpI (pc' := 210) (t := 233) dX11_digest_207 (by decide) rfl ⟨by omega, by omega⟩ ⟨by omega, by omega⟩ (fun c2_3 => absurd (show 4 ≤ (2 : Int) from c2_3) (by decide)) (fun _ => ?_)
  refine e_ldc2 (pc' := 213) dX11_digest_210 rfl c_11_258 ?_
  refine e_lload_n (pc' := 214) dX11_digest_213 rfl rfl ?_
  refine e_lmul (pc' := 215) dX11_digest_214 rfl ?_
  refine e_aload_n (pc' := 216) dX11_digest_215 rfl rfl ?_
  refine e_getR (pc' := 219) dX11_digest_216 rfl f_11_7 h_88 rfl ?_
  refine e_bipush (pc' := 221) (z := 53) dX11_digest_219 rfl (by decide) ?_
  refine e_iload_n (pc' := 222) dX11_digest_221 rfl rfl ?_
  refine e_iadd (pc' := 223) dX11_digest_222 rfl ?_
  refine e_iald (pc' := 224) (v := (ρ.1 1 10)) dX11_digest_223 rfl h_89 (by decide) (by omega) (by omega) hRτ.1.2.1 ?_
  refine e_i2l (pc' := 225) dX11_digest_224 rfl (by first | exact ⟨by omega, by omega⟩ | exact hbs) ?_
  refine e_ladd (pc' := 226) dX11_digest_225 rfl ?_
  refine e_lstore_n (pc' := 227) (L' := [some (rv 88), some (jv ((31 * ((31 * ((31 * h0) + (Int64.ofInt (ρ.1 1 8)))) + (Int64.ofInt (ρ.1 1 9)))) + (Int64.ofInt (ρ.1 1 10)))), none, some (iv 2), x4, x5]) dX11_digest_226 rfl (by decide) rfl ?_
  refine e_iinc (pc' := 230) (L' := [some (rv 88), some (jv ((31 * ((31 * ((31 * h0) + (Int64.ofInt (ρ.1 1 8)))) + (Int64.ofInt (ρ.1 1 9)))) + (Int64.ofInt (ρ.1 1 10)))), none, some (iv 3), x4, x5]) dX11_digest_227 rfl rfl (by decide) rfl ?_
  refine e_goto (pc' := 205) dX11_digest_230 (by decide) ?_
  refine e_iload_n (pc' := 206) dX11_digest_205 rfl rfl ?_
  refine e_iconst (pc' := 207) dX11_digest_206 rfl ?_
  refine e_icmpI (pc' := 210) (t := 233) dX11_digest_207 (by decide) rfl ⟨by omega, by omega⟩ ⟨by omega, by omega⟩ (fun c2_4 => absurd (show 4 ≤ (3 : Int) from c2_4) (by decide)) (fun _ => ?_)
  refine e_ldc2 (pc' := 213) dX11_digest_210 rfl c_11_258 ?_
  refine e_lload_n (pc' := 214) dX11_digest_213 rfl rfl ?_
  refine e_lmul (pc' := 215) dX11_digest_214 rfl ?_
  refine e_aload_n (pc' := 216) dX11_digest_215 rfl rfl ?_
  refine e_getR (pc' := 219) dX11_digest_216 rfl f_11_7 h_88 rfl ?_
  refine e_bipush (pc' := 221) (z := 53) dX11_digest_219 rfl (by decide) ?_
  refine e_iload_n (pc' := 222) dX11_digest_221 rfl rfl ?_
  refine e_iadd (pc' := 223) dX11_digest_222 rfl ?_
  refine e_iald (pc' := 224) (v := (ρ.1 1 11)) dX11_digest_223 rfl h_89 (by decide) (by omega) (by omega) hRτ.1.2.2 ?_
  refine e_i2l (pc' := 225) dX11_digest_224 rfl (by first | exact ⟨by omega, by omega⟩ | exact hbs) ?_
  refine e_ladd (pc' := 226) dX11_digest_225 rfl ?_
  refine e_lstore_n (pc' := 227) (L' := [some (rv 88), some (jv ((31 * ((31 * ((31 * ((31 * h0) + (Int64.ofInt (ρ.1 1 8)))) + (Int64.ofInt (ρ.1 1 9)))) + (Int64.ofInt (ρ.1 1 10)))) + (Int64.ofInt (ρ.1 1 11)))), none, some (iv 3), x4, x5]) dX11_digest_226 rfl (by decide) rfl ?_
  refine e_iinc (pc' := 230) (L' := [some (rv 88), some (jv ((31 * ((31 * ((31 * ((31 * h0) + (Int64.ofInt (ρ.1 1 8)))) + (Int64.ofInt (ρ.1 1 9)))) + (Int64.ofInt (ρ.1 1 10)))) + (Int64.ofInt (ρ.1 1 11)))), none, some (iv 4), x4, x5]) dX11_digest_227 rfl rfl (by decide) rfl ?_
  refine e_goto (pc' := 205) dX11_digest_230 (by decide) ?_
  refine e_iload_n (pc' := 206) dX11_digest_205 rfl rfl ?_
  refine e_iconst (pc' := 207) dX11_digest_206 rfl ?_
  refine e_icmpI (pc' := 210) (t := 233) dX11_digest_207 (by decide) rfl ⟨by omega, by omega⟩ ⟨by omega, by omega⟩ (fun _ => ?_) (fun c2_5 => absurd (show 4 ≤ (4 : Int) by decide) c2_5)
  refine e_iconst (pc' := 234) dX11_digest_233 rfl ?_
  refine e_istore_n (pc' := 235) (L' := [some (rv 88), some (jv ((31 * ((31 * ((31 * ((31 * h0) + (Int64.ofInt (ρ.1 1 8)))) + (Int64.ofInt (ρ.1 1 9)))) + (Int64.ofInt (ρ.1 1 10)))) + (Int64.ofInt (ρ.1 1 11)))), none, some (iv 0), x4, x5]) dX11_digest_234 rfl (by decide) rfl ?_
  refine e_iload_n (pc' := 236) dX11_digest_235 rfl rfl ?_
  refine e_iconst (pc' := 237) dX11_digest_236 rfl ?_
  refine e_icmpI (pc' := 240) (t := 299) dX11_digest_237 (by decide) rfl ⟨by omega, by omega⟩ ⟨by omega, by omega⟩ (fun c2_6 => absurd (show 3 ≤ (0 : Int) from c2_6) (by decide)) (fun _ => ?_)
  refine e_aload_n (pc' := 241) dX11_digest_240 rfl rfl ?_
  refine e_getR (pc' := 244) dX11_digest_241 rfl f_11_7 h_88 rfl ?_
  refine e_bipush (pc' := 246) (z := 57) dX11_digest_244 rfl (by decide) ?_
  refine e_bipush (pc' := 248) (z := 41) dX11_digest_246 rfl (by decide) ?_
  refine e_iload_n (pc' := 249) dX11_digest_248 rfl rfl ?_
  refine e_imul (pc' := 250) dX11_digest_249 rfl ?_
  refine e_iadd (pc' := 251) dX11_digest_250 rfl ?_
  refine e_iald (pc' := 252) (v := (ρ.1 8 2)) dX11_digest_251 rfl h_89 (by decide) (by omega) (by omega) (hRτ.2 0 (by decide) (by decide)).2.1 ?_
  refine e_istore (pc' := 254) (L' := [some (rv 88), some (jv ((31 * ((31 * ((31 * ((31 * h0) + (Int64.ofInt (ρ.1 1 8)))) + (Int64.ofInt (ρ.1 1 9)))) + (Int64.ofInt (ρ.1 1 10)))) + (Int64.ofInt (ρ.1 1 11)))), none, some (iv 0), some (iv (ρ.1 8 2)), x5]) dX11_digest_252 rfl (by decide) rfl ?_
  refine e_iconst (pc' := 255) dX11_digest_254 rfl ?_
  refine e_istore (pc' := 257) (L' := [some (rv 88), some (jv ((31 * ((31 * ((31 * ((31 * h0) + (Int64.ofInt (ρ.1 1 8)))) + (Int64.ofInt (ρ.1 1 9)))) + (Int64.ofInt (ρ.1 1 10)))) + (Int64.ofInt (ρ.1 1 11)))), none, some (iv 0), some (iv (ρ.1 8 2)), some (iv 0)]) dX11_digest_255 rfl (by decide) rfl ?_
  have hn0 : 0 ≤ ρ.1 8 2 ∧ ρ.1 8 2 ≤ 40 := by obtain ⟨⟨nn, a1, a2, _⟩, _⟩ := hRτ.2 0 (by decide) (by decide); change ρ.1 8 2 = (nn : Int) at a2; omega
  refine l_mdR_0 hRτ ((31 * ((31 * ((31 * ((31 * h0) + (Int64.ofInt (ρ.1 1 8)))) + (Int64.ofInt (ρ.1 1 9)))) + (Int64.ofInt (ρ.1 1 10)))) + (Int64.ofInt (ρ.1 1 11))) (fun y5 => ?_) (ρ.1 8 2 + 2).toNat 0 ((31 * ((31 * ((31 * ((31 * h0) + (Int64.ofInt (ρ.1 1 8)))) + (Int64.ofInt (ρ.1 1 9)))) + (Int64.ofInt (ρ.1 1 10)))) + (Int64.ofInt (ρ.1 1 11))) (by decide) (by omega) (by omega) rfl
  refine e_iinc (pc' := 296) (L' := [some (rv 88), some (jv (dgr (ρ.1 8 2) (ρ.1 9) ((31 * ((31 * ((31 * ((31 * h0) + (Int64.ofInt (ρ.1 1 8)))) + (Int64.ofInt (ρ.1 1 9)))) + (Int64.ofInt (ρ.1 1 10)))) + (Int64.ofInt (ρ.1 1 11))))), none, some (iv 1), some (iv (ρ.1 8 2)), y5]) dX11_digest_293 rfl rfl (by decide) rfl ?_
  refine e_goto (pc' := 235) dX11_digest_296 (by decide) ?_
  refine e_iload_n (pc' := 236) dX11_digest_235 rfl rfl ?_
  refine e_iconst (pc' := 237) dX11_digest_236 rfl ?_
  refine e_icmpI (pc' := 240) (t := 299) dX11_digest_237 (by decide) rfl ⟨by omega, by omega⟩ ⟨by omega, by omega⟩ (fun c2_1 => absurd (show 3 ≤ (1 : Int) from c2_1) (by decide)) (fun _ => ?_)
  refine e_aload_n (pc' := 241) dX11_digest_240 rfl rfl ?_
  refine e_getR (pc' := 244) dX11_digest_241 rfl f_11_7 h_88 rfl ?_
  refine e_bipush (pc' := 246) (z := 57) dX11_digest_244 rfl (by decide) ?_
  refine e_bipush (pc' := 248) (z := 41) dX11_digest_246 rfl (by decide) ?_
  refine e_iload_n (pc' := 249) dX11_digest_248 rfl rfl ?_
  refine e_imul (pc' := 250) dX11_digest_249 rfl ?_
  refine e_iadd (pc' := 251) dX11_digest_250 rfl ?_
  refine e_iald (pc' := 252) (v := (ρ.1 11 2)) dX11_digest_251 rfl h_89 (by decide) (by omega) (by omega) (hRτ.2 1 (by decide) (by decide)).2.1 ?_
  refine e_istore (pc' := 254) (L' := [some (rv 88), some (jv (dgr (ρ.1 8 2) (ρ.1 9) ((31 * ((31 * ((31 * ((31 * h0) + (Int64.ofInt (ρ.1 1 8)))) + (Int64.ofInt (ρ.1 1 9)))) + (Int64.ofInt (ρ.1 1 10)))) + (Int64.ofInt (ρ.1 1 11))))), none, some (iv 1), some (iv (ρ.1 11 2)), y5]) dX11_digest_252 rfl (by decide) rfl ?_
  refine e_iconst (pc' := 255) dX11_digest_254 rfl ?_
  refine e_istore (pc' := 257) (L' := [some (rv 88), some (jv (dgr (ρ.1 8 2) (ρ.1 9) ((31 * ((31 * ((31 * ((31 * h0) + (Int64.ofInt (ρ.1 1 8)))) + (Int64.ofInt (ρ.1 1 9)))) + (Int64.ofInt (ρ.1 1 10)))) + (Int64.ofInt (ρ.1 1 11))))), none, some (iv 1), some (iv (ρ.1 11 2)), some (iv 0)]) dX11_digest_255 rfl (by decide) rfl ?_
  have hn1 : 0 ≤ ρ.1 11 2 ∧ ρ.1 11 2 ≤ 40 := by obtain ⟨⟨nn, a1, a2, _⟩, _⟩ := hRτ.2 1 (by decide) (by decide); change ρ.1 11 2 = (nn : Int) at a2; omega
  refine l_mdR_1 hRτ (dgr (ρ.1 8 2) (ρ.1 9) ((31 * ((31 * ((31 * ((31 * h0) + (Int64.ofInt (ρ.1 1 8)))) + (Int64.ofInt (ρ.1 1 9)))) + (Int64.ofInt (ρ.1 1 10)))) + (Int64.ofInt (ρ.1 1 11)))) (fun y5 => ?_) (ρ.1 11 2 + 2).toNat 0 (dgr (ρ.1 8 2) (ρ.1 9) ((31 * ((31 * ((31 * ((31 * h0) + (Int64.ofInt (ρ.1 1 8)))) + (Int64.ofInt (ρ.1 1 9)))) + (Int64.ofInt (ρ.1 1 10)))) + (Int64.ofInt (ρ.1 1 11)))) (by decide) (by omega) (by omega) rfl
  refine e_iinc (pc' := 296) (L' := [some (rv 88), some (jv (dgr (ρ.1 11 2) (ρ.1 12) (dgr (ρ.1 8 2) (ρ.1 9) ((31 * ((31 * ((31 * ((31 * h0) + (Int64.ofInt (ρ.1 1 8)))) + (Int64.ofInt (ρ.1 1 9)))) + (Int64.ofInt (ρ.1 1 10)))) + (Int64.ofInt (ρ.1 1 11)))))), none, some (iv 2), some (iv (ρ.1 11 2)), y5]) dX11_digest_293 rfl rfl (by decide) rfl ?_
  refine e_goto (pc' := 235) dX11_digest_296 (by decide) ?_
  refine e_iload_n (pc' := 236) dX11_digest_235 rfl rfl ?_
  refine e_iconst (pc' := 237) dX11_digest_236 rfl ?_
  refine e_icmpI (pc' := 240) (t := 299) dX11_digest_237 (by decide) rfl ⟨by omega, by omega⟩ ⟨by omega, by omega⟩ (fun c2_1 => absurd (show 3 ≤ (2 : Int) from c2_1) (by decide)) (fun _ => ?_)
  refine e_aload_n (pc' := 241) dX11_digest_240 rfl rfl ?_
  refine e_getR (pc' := 244) dX11_digest_241 rfl f_11_7 h_88 rfl ?_
  refine e_bipush (pc' := 246) (z := 57) dX11_digest_244 rfl (by decide) ?_
  refine e_bipush (pc' := 248) (z := 41) dX11_digest_246 rfl (by decide) ?_
  refine e_iload_n (pc' := 249) dX11_digest_248 rfl rfl ?_
  refine e_imul (pc' := 250) dX11_digest_249 rfl ?_
  refine e_iadd (pc' := 251) dX11_digest_250 rfl ?_
  refine e_iald (pc' := 252) (v := (ρ.1 14 2)) dX11_digest_251 rfl h_89 (by decide) (by omega) (by omega) (hRτ.2 2 (by decide) (by decide)).2.1 ?_
  refine e_istore (pc' := 254) (L' := [some (rv 88), some (jv (dgr (ρ.1 11 2) (ρ.1 12) (dgr (ρ.1 8 2) (ρ.1 9) ((31 * ((31 * ((31 * ((31 * h0) + (Int64.ofInt (ρ.1 1 8)))) + (Int64.ofInt (ρ.1 1 9)))) + (Int64.ofInt (ρ.1 1 10)))) + (Int64.ofInt (ρ.1 1 11)))))), none, some (iv 2), some (iv (ρ.1 14 2)), y5]) dX11_digest_252 rfl (by decide) rfl ?_
  refine e_iconst (pc' := 255) dX11_digest_254 rfl ?_
  refine e_istore (pc' := 257) (L' := [some (rv 88), some (jv (dgr (ρ.1 11 2) (ρ.1 12) (dgr (ρ.1 8 2) (ρ.1 9) ((31 * ((31 * ((31 * ((31 * h0) + (Int64.ofInt (ρ.1 1 8)))) + (Int64.ofInt (ρ.1 1 9)))) + (Int64.ofInt (ρ.1 1 10)))) + (Int64.ofInt (ρ.1 1 11)))))), none, some (iv 2), some (iv (ρ.1 14 2)), some (iv 0)]) dX11_digest_255 rfl (by decide) rfl ?_
  have hn2 : 0 ≤ ρ.1 14 2 ∧ ρ.1 14 2 ≤ 40 := by obtain ⟨⟨nn, a1, a2, _⟩, _⟩ := hRτ.2 2 (by decide) (by decide); change ρ.1 14 2 = (nn : Int) at a2; omega
  refine l_mdR_2 hRτ (dgr (ρ.1 11 2) (ρ.1 12) (dgr (ρ.1 8 2) (ρ.1 9) ((31 * ((31 * ((31 * ((31 * h0) + (Int64.ofInt (ρ.1 1 8)))) + (Int64.ofInt (ρ.1 1 9)))) + (Int64.ofInt (ρ.1 1 10)))) + (Int64.ofInt (ρ.1 1 11))))) (fun y5 => ?_) (ρ.1 14 2 + 2).toNat 0 (dgr (ρ.1 11 2) (ρ.1 12) (dgr (ρ.1 8 2) (ρ.1 9) ((31 * ((31 * ((31 * ((31 * h0) + (Int64.ofInt (ρ.1 1 8)))) + (Int64.ofInt (ρ.1 1 9)))) + (Int64.ofInt (ρ.1 1 10)))) + (Int64.ofInt (ρ.1 1 11))))) (by decide) (by omega) (by omega) rfl
  refine e_iinc (pc' := 296) (L' := [some (rv 88), some (jv (dgr (ρ.1 14 2) (ρ.1 15) (dgr (ρ.1 11 2) (ρ.1 12) (dgr (ρ.1 8 2) (ρ.1 9) ((31 * ((31 * ((31 * ((31 * h0) + (Int64.ofInt (ρ.1 1 8)))) + (Int64.ofInt (ρ.1 1 9)))) + (Int64.ofInt (ρ.1 1 10)))) + (Int64.ofInt (ρ.1 1 11))))))), none, some (iv 3), some (iv (ρ.1 14 2)), y5]) dX11_digest_293 rfl rfl (by decide) rfl ?_
  refine e_goto (pc' := 235) dX11_digest_296 (by decide) ?_
  refine e_iload_n (pc' := 236) dX11_digest_235 rfl rfl ?_
  refine e_iconst (pc' := 237) dX11_digest_236 rfl ?_
  refine e_icmpI (pc' := 240) (t := 299) dX11_digest_237 (by decide) rfl ⟨by omega, by omega⟩ ⟨by omega, by omega⟩ (fun _ => ?_) (fun c2_1 => absurd (show 3 ≤ (3 : Int) by decide) c2_1)
  refine e_ldc2 (pc' := 302) dX11_digest_299 rfl c_11_258 ?_
  refine e_lload_n (pc' := 303) dX11_digest_302 rfl rfl ?_
  refine e_lmul (pc' := 304) dX11_digest_303 rfl ?_
  refine e_aload_n (pc' := 305) dX11_digest_304 rfl rfl ?_
  refine e_cv0i (pc' := 308) dX11_digest_305 rfl k_11_217 h_88 rfl (Nat.le_of_ble_eq_true rfl) rfl rfl ⟨rfl, rfl⟩ ⟨Nat.zero_le _, Nat.zero_le _⟩ (s_m_allNow hMτ) ?_
  rintro r τz ⟨hr, hEz, hJz, hMz⟩
  rw [hr]
  refine e_i2l (pc' := 309) dX11_digest_308 rfl (by first | exact ⟨by omega, by omega⟩ | exact hbs) ?_
  refine e_ladd (pc' := 310) dX11_digest_309 rfl ?_
  exact e_lret dX11_digest_310 rfl ⟨rfl, Nat.le_refl _⟩ ⟨_, rfl, rfl, hF.tr hEz, hK.tr hJz, hMz⟩

set_option maxHeartbeats 4000000 in
set_option maxRecDepth 100000 in
theorem s_m_digest {X : AX} {d : Nat} {σ ρ : SG} (h : MdI σ ρ 1) (hR : MrR (σ.1 89) ρ 1) : Ev X 0 0 (d + 8) mX11_digest 0 [some (rv 88), none, none, none, none, none] [] σ (QJ (fun v σ' => v = dgD ρ ∧ Fr [88, 92, 93, 94, 95, 96, 97, 98, 99] σ σ' ∧ KA σ σ' ∧ MdI σ' ρ 1)) := by
  have ho := h.1
  have hX := h.2.1
  have hG := ho.1
  have hW := ho.2.1
  have hP := h.2.2.1
  have hx2 := smI_5 (f := fun g => gv (ρ.1 6) g) (M := 36) (by decide) hG (fun g a b => gv_rg ho.2.2.2.2.2.2.1 a (by omega))
  have hx3 := smI_5 (f := ρ.1 2) (M := 12) (by decide) hG (fun g a b => ho.2.2.2.2.2.2.2.2.2.2.1 g a (by omega))
  refine e_ldc2 (pc' := 3) dX11_digest_0 rfl c_11_256 ?_
  refine e_lstore_n (pc' := 4) (L' := [some (rv 88), some (jv 461), none, none, none, none]) dX11_digest_3 rfl (by decide) rfl ?_
  refine e_iconst (pc' := 5) dX11_digest_4 rfl ?_
  refine e_istore_n (pc' := 6) (L' := [some (rv 88), some (jv 461), none, some (iv 0), none, none]) dX11_digest_5 rfl (by decide) rfl ?_
  refine e_iload_n (pc' := 7) dX11_digest_6 rfl rfl ?_
  refine e_iconst (pc' := 8) dX11_digest_7 rfl ?_
  refine e_icmpI (pc' := 11) (t := 30) dX11_digest_8 (by decide) rfl ⟨by omega, by omega⟩ ⟨by omega, by omega⟩ (fun c2_1 => absurd (show 4 ≤ (0 : Int) from c2_1) (by decide)) (fun _ => ?_)
  refine e_ldc2 (pc' := 14) dX11_digest_11 rfl c_11_258 ?_
  refine e_lload_n (pc' := 15) dX11_digest_14 rfl rfl ?_
  refine e_lmul (pc' := 16) dX11_digest_15 rfl ?_
  refine e_aload_n (pc' := 17) dX11_digest_16 rfl rfl ?_
  refine e_iload_n (pc' := 18) dX11_digest_17 rfl rfl ?_
  refine e_cv1i (pc' := 21) dX11_digest_18 rfl k_11_260 h_88 rfl (Nat.le_of_ble_eq_true rfl) rfl rfl ⟨rfl, rfl⟩ ⟨Nat.zero_le _, Nat.zero_le _⟩ (s_m_count h 0 ⟨by decide, by decide⟩) ?_
  intro z0 σ' hr
  have hv : z0 = (ρ.1 1 6) := hr.2
  rw [hr.1, hv]; clear hr hv
  refine e_i2l (pc' := 22) dX11_digest_21 rfl ⟨by omega, by omega⟩ ?_
  refine e_ladd (pc' := 23) dX11_digest_22 rfl ?_
  refine e_lstore_n (pc' := 24) (L' := [some (rv 88), some (jv ((31 * 461) + (Int64.ofInt (ρ.1 1 6)))), none, some (iv 0), none, none]) dX11_digest_23 rfl (by decide) rfl ?_
  refine e_iinc (pc' := 27) (L' := [some (rv 88), some (jv ((31 * 461) + (Int64.ofInt (ρ.1 1 6)))), none, some (iv 1), none, none]) dX11_digest_24 rfl rfl (by decide) rfl ?_
  refine e_goto (pc' := 6) dX11_digest_27 (by decide) ?_
  refine e_iload_n (pc' := 7) dX11_digest_6 rfl rfl ?_
  refine e_iconst (pc' := 8) dX11_digest_7 rfl ?_
  refine e_icmpI (pc' := 11) (t := 30) dX11_digest_8 (by decide) rfl ⟨by omega, by omega⟩ ⟨by omega, by omega⟩ (fun c2_2 => absurd (show 4 ≤ (1 : Int) from c2_2) (by decide)) (fun _ => ?_)
  refine e_ldc2 (pc' := 14) dX11_digest_11 rfl c_11_258 ?_
  refine e_lload_n (pc' := 15) dX11_digest_14 rfl rfl ?_
  refine e_lmul (pc' := 16) dX11_digest_15 rfl ?_
  refine e_aload_n (pc' := 17) dX11_digest_16 rfl rfl ?_
  refine e_iload_n (pc' := 18) dX11_digest_17 rfl rfl ?_
  refine e_cv1i (pc' := 21) dX11_digest_18 rfl k_11_260 h_88 rfl (Nat.le_of_ble_eq_true rfl) rfl rfl ⟨rfl, rfl⟩ ⟨Nat.zero_le _, Nat.zero_le _⟩ (s_m_count h 1 ⟨by decide, by decide⟩) ?_
  intro z1 σ' hr
  have hv : z1 = (ρ.1 1 7) := hr.2
  rw [hr.1, hv]; clear hr hv
  refine e_i2l (pc' := 22) dX11_digest_21 rfl ⟨by omega, by omega⟩ ?_
  refine e_ladd (pc' := 23) dX11_digest_22 rfl ?_
  refine e_lstore_n (pc' := 24) (L' := [some (rv 88), some (jv ((31 * ((31 * 461) + (Int64.ofInt (ρ.1 1 6)))) + (Int64.ofInt (ρ.1 1 7)))), none, some (iv 1), none, none]) dX11_digest_23 rfl (by decide) rfl ?_
  refine e_iinc (pc' := 27) (L' := [some (rv 88), some (jv ((31 * ((31 * 461) + (Int64.ofInt (ρ.1 1 6)))) + (Int64.ofInt (ρ.1 1 7)))), none, some (iv 2), none, none]) dX11_digest_24 rfl rfl (by decide) rfl ?_
  refine e_goto (pc' := 6) dX11_digest_27 (by decide) ?_
  refine e_iload_n (pc' := 7) dX11_digest_6 rfl rfl ?_
  refine e_iconst (pc' := 8) dX11_digest_7 rfl ?_
  refine e_icmpI (pc' := 11) (t := 30) dX11_digest_8 (by decide) rfl ⟨by omega, by omega⟩ ⟨by omega, by omega⟩ (fun c2_3 => absurd (show 4 ≤ (2 : Int) from c2_3) (by decide)) (fun _ => ?_)
  refine e_ldc2 (pc' := 14) dX11_digest_11 rfl c_11_258 ?_
  refine e_lload_n (pc' := 15) dX11_digest_14 rfl rfl ?_
  refine e_lmul (pc' := 16) dX11_digest_15 rfl ?_
  refine e_aload_n (pc' := 17) dX11_digest_16 rfl rfl ?_
  refine e_iload_n (pc' := 18) dX11_digest_17 rfl rfl ?_
  refine e_cv1i (pc' := 21) dX11_digest_18 rfl k_11_260 h_88 rfl (Nat.le_of_ble_eq_true rfl) rfl rfl ⟨rfl, rfl⟩ ⟨Nat.zero_le _, Nat.zero_le _⟩ (s_m_count h 2 ⟨by decide, by decide⟩) ?_
  intro z2 σ' hr
  have hv : z2 = (smI (fun g => gv (ρ.1 6) g) (ρ.1 1 6)) := hr.2
  rw [hr.1, hv]; clear hr hv
  refine e_i2l (pc' := 22) dX11_digest_21 rfl ⟨by omega, by omega⟩ ?_
  refine e_ladd (pc' := 23) dX11_digest_22 rfl ?_
  refine e_lstore_n (pc' := 24) (L' := [some (rv 88), some (jv ((31 * ((31 * ((31 * 461) + (Int64.ofInt (ρ.1 1 6)))) + (Int64.ofInt (ρ.1 1 7)))) + (Int64.ofInt (smI (fun g => gv (ρ.1 6) g) (ρ.1 1 6))))), none, some (iv 2), none, none]) dX11_digest_23 rfl (by decide) rfl ?_
  refine e_iinc (pc' := 27) (L' := [some (rv 88), some (jv ((31 * ((31 * ((31 * 461) + (Int64.ofInt (ρ.1 1 6)))) + (Int64.ofInt (ρ.1 1 7)))) + (Int64.ofInt (smI (fun g => gv (ρ.1 6) g) (ρ.1 1 6))))), none, some (iv 3), none, none]) dX11_digest_24 rfl rfl (by decide) rfl ?_
  refine e_goto (pc' := 6) dX11_digest_27 (by decide) ?_
  refine e_iload_n (pc' := 7) dX11_digest_6 rfl rfl ?_
  refine e_iconst (pc' := 8) dX11_digest_7 rfl ?_
  refine e_icmpI (pc' := 11) (t := 30) dX11_digest_8 (by decide) rfl ⟨by omega, by omega⟩ ⟨by omega, by omega⟩ (fun c2_4 => absurd (show 4 ≤ (3 : Int) from c2_4) (by decide)) (fun _ => ?_)
  refine e_ldc2 (pc' := 14) dX11_digest_11 rfl c_11_258 ?_
  refine e_lload_n (pc' := 15) dX11_digest_14 rfl rfl ?_
  refine e_lmul (pc' := 16) dX11_digest_15 rfl ?_
  refine e_aload_n (pc' := 17) dX11_digest_16 rfl rfl ?_
  refine e_iload_n (pc' := 18) dX11_digest_17 rfl rfl ?_
  refine e_cv1i (pc' := 21) dX11_digest_18 rfl k_11_260 h_88 rfl (Nat.le_of_ble_eq_true rfl) rfl rfl ⟨rfl, rfl⟩ ⟨Nat.zero_le _, Nat.zero_le _⟩ (s_m_count h 3 ⟨by decide, by decide⟩) ?_
  intro z3 σ' hr
  have hv : z3 = (smI (ρ.1 2) (ρ.1 1 6)) := hr.2
  rw [hr.1, hv]; clear hr hv
  refine e_i2l (pc' := 22) dX11_digest_21 rfl ⟨by omega, by omega⟩ ?_
  refine e_ladd (pc' := 23) dX11_digest_22 rfl ?_
  refine e_lstore_n (pc' := 24) (L' := [some (rv 88), some (jv ((31 * ((31 * ((31 * ((31 * 461) + (Int64.ofInt (ρ.1 1 6)))) + (Int64.ofInt (ρ.1 1 7)))) + (Int64.ofInt (smI (fun g => gv (ρ.1 6) g) (ρ.1 1 6))))) + (Int64.ofInt (smI (ρ.1 2) (ρ.1 1 6))))), none, some (iv 3), none, none]) dX11_digest_23 rfl (by decide) rfl ?_
  refine e_iinc (pc' := 27) (L' := [some (rv 88), some (jv ((31 * ((31 * ((31 * ((31 * 461) + (Int64.ofInt (ρ.1 1 6)))) + (Int64.ofInt (ρ.1 1 7)))) + (Int64.ofInt (smI (fun g => gv (ρ.1 6) g) (ρ.1 1 6))))) + (Int64.ofInt (smI (ρ.1 2) (ρ.1 1 6))))), none, some (iv 4), none, none]) dX11_digest_24 rfl rfl (by decide) rfl ?_
  refine e_goto (pc' := 6) dX11_digest_27 (by decide) ?_
  refine e_iload_n (pc' := 7) dX11_digest_6 rfl rfl ?_
  refine e_iconst (pc' := 8) dX11_digest_7 rfl ?_
  refine e_icmpI (pc' := 11) (t := 30) dX11_digest_8 (by decide) rfl ⟨by omega, by omega⟩ ⟨by omega, by omega⟩ (fun _ => ?_) (fun c2_5 => absurd (show 4 ≤ (4 : Int) by decide) c2_5)
  refine e_iconst (pc' := 31) dX11_digest_30 rfl ?_
  refine e_istore_n (pc' := 32) (L' := [some (rv 88), some (jv ((31 * ((31 * ((31 * ((31 * 461) + (Int64.ofInt (ρ.1 1 6)))) + (Int64.ofInt (ρ.1 1 7)))) + (Int64.ofInt (smI (fun g => gv (ρ.1 6) g) (ρ.1 1 6))))) + (Int64.ofInt (smI (ρ.1 2) (ρ.1 1 6))))), none, some (iv 0), none, none]) dX11_digest_31 rfl (by decide) rfl ?_
  refine l_mdG h hR ((31 * ((31 * ((31 * ((31 * 461) + (Int64.ofInt (ρ.1 1 6)))) + (Int64.ofInt (ρ.1 1 7)))) + (Int64.ofInt (smI (fun g => gv (ρ.1 6) g) (ρ.1 1 6))))) + (Int64.ofInt (smI (ρ.1 2) (ρ.1 1 6)))) (fun y3 y4 y5 => ?_) ((ρ.1 1 6) + 1).toNat 0 ((31 * ((31 * ((31 * ((31 * 461) + (Int64.ofInt (ρ.1 1 6)))) + (Int64.ofInt (ρ.1 1 7)))) + (Int64.ofInt (smI (fun g => gv (ρ.1 6) g) (ρ.1 1 6))))) + (Int64.ofInt (smI (ρ.1 2) (ρ.1 1 6)))) _ _ (by decide) (by omega) (by omega) rfl
  refine e_iconst (pc' := 141) dX11_digest_140 rfl ?_
  refine e_istore_n (pc' := 142) (L' := [some (rv 88), some (jv (fdJI (dgg (ρ.1 2) (ρ.1 4) (ρ.1 5) (ρ.1 6)) (ρ.1 1 6) ((31 * ((31 * ((31 * ((31 * 461) + (Int64.ofInt (ρ.1 1 6)))) + (Int64.ofInt (ρ.1 1 7)))) + (Int64.ofInt (smI (fun g => gv (ρ.1 6) g) (ρ.1 1 6))))) + (Int64.ofInt (smI (ρ.1 2) (ρ.1 1 6)))))), none, some (iv 0), y4, y5]) dX11_digest_141 rfl (by decide) rfl ?_
  refine l_mdW h hR (fdJI (dgg (ρ.1 2) (ρ.1 4) (ρ.1 5) (ρ.1 6)) (ρ.1 1 6) ((31 * ((31 * ((31 * ((31 * 461) + (Int64.ofInt (ρ.1 1 6)))) + (Int64.ofInt (ρ.1 1 7)))) + (Int64.ofInt (smI (fun g => gv (ρ.1 6) g) (ρ.1 1 6))))) + (Int64.ofInt (smI (ρ.1 2) (ρ.1 1 6))))) (fun τ z3 z4 z5 hMτ hFτ hKτ => ?_) ((ρ.1 1 7) + 1).toNat 0 _ σ _ _ (by decide) (by omega) (by omega) rfl h Fr.rf KA.rf
  exact l_md203 h hR _ τ _ _ _ hMτ hFτ hKτ
