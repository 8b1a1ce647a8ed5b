set_option maxHeartbeats 4000000 in
set_option maxRecDepth 100000 in
theorem l_rdFQ {X : AX} {d : Nat} {σ0 : SG} (t : Int → Int64) (u : Int) (n : Nat) (T : Int → Int) (σ : SG) (vs : List Int64) (ss : List Int) (p fl op wa : Int) (x4 : Option AV) (hI : PsI σ u vs ss p fl) (hf : (fnS T n).2.2.2.2.2 = fl) (hfn : ¬ fl = -1) (hfr : rg fl) (hF : PF σ0 σ) : Ev X 0 0 (d + 4) mX11_reads 26 [some (rv 88), some (iv op), some (iv wa), some (iv 1), x4] [] σ (QI (fun r σ' => σ'.1 88 5 = (fnS T n).2.2.2.2.2 ∧ r = (if (fnS T n).2.2.2.2.2 = -1 then 1 else 0) ∧ ((fnS T n).2.2.2.2.2 = -1 → σ'.2 88 11 = popV (evQ t (fnS T n).1)) ∧ σ'.1 88 3 = u ∧ PF σ0 σ')) := by
  refine e_iload_n (pc' := 27) dX11_reads_26 rfl rfl ?_
  refine e_ifI (pc' := 30) (t := 488) dX11_reads_27 (by decide) rfl ⟨by omega, by omega⟩ (fun c2_1 => absurd (show (1 : Int) = 0 from c2_1) (by decide)) (fun _ => ?_)
  refine e_aload_n (pc' := 31) dX11_reads_30 rfl rfl ?_
  refine e_getI (pc' := 34) (v := fl) dX11_reads_31 rfl f_11_142 h_88 rfl hI.2.2.1 ?_
  refine e_iconst (pc' := 35) dX11_reads_34 rfl ?_
  refine e_icmpI (pc' := 38) (t := 488) dX11_reads_35 (by decide) rfl (by first | exact hfr | exact ⟨by omega, by omega⟩) ⟨by omega, by omega⟩ (fun (c2_2 : (fl : Int) ≠ (-1)) => ?_) (fun (c2_2 : ¬ ((fl : Int) ≠ (-1))) => absurd (show fl ≠ (-1) from hfn) c2_2)
  refine e_aload_n (pc' := 489) dX11_reads_488 rfl rfl ?_
  refine e_aload_n (pc' := 490) dX11_reads_489 rfl rfl ?_
  refine e_getI (pc' := 493) (v := fl) dX11_reads_490 rfl f_11_142 h_88 rfl hI.2.2.1 ?_
  refine e_iconst (pc' := 494) dX11_reads_493 rfl ?_
  refine e_icmpI (pc' := 497) (t := 506) dX11_reads_494 (by decide) rfl (by first | exact hfr | exact ⟨by omega, by omega⟩) ⟨by omega, by omega⟩ (fun (c2_3 : (fl : Int) ≠ (-1)) => ?_) (fun (c2_3 : ¬ ((fl : Int) ≠ (-1))) => absurd (show fl ≠ (-1) from hfn) c2_3)
  refine e_lconst (pc' := 507) (z := 0) dX11_reads_506 rfl rfl ?_
  refine e_putJ (pc' := 510) dX11_reads_507 rfl f_11_165 h_88 rfl rfl rfl ?_
  refine e_aload_n (pc' := 511) dX11_reads_510 rfl rfl ?_
  refine e_getI (pc' := 514) (v := fl) dX11_reads_511 rfl f_11_142 h_88 rfl hI.2.2.1 ?_
  refine e_iconst (pc' := 515) dX11_reads_514 rfl ?_
  refine e_icmpI (pc' := 518) (t := 522) dX11_reads_515 (by decide) rfl (by first | exact hfr | exact ⟨by omega, by omega⟩) ⟨by omega, by omega⟩ (fun (c2_4 : (fl : Int) ≠ (-1)) => ?_) (fun (c2_4 : ¬ ((fl : Int) ≠ (-1))) => absurd (show fl ≠ (-1) from hfn) c2_4)
  refine e_iconst (pc' := 523) dX11_reads_522 rfl ?_
  exact e_zret dX11_reads_523 rfl (by decide) ⟨rfl, Nat.le_refl _⟩ ⟨_, rfl, hI.2.2.1.trans hf.symm, by rw [hf, if_neg hfn], (fun q => absurd (hf.symm.trans q) hfn), hI.1, hF.tr ⟨(by repeat (first | exact Fr.rf | assumption | (refine fr_I ?_ (by decide)) | (refine fr_J ?_ (by decide)) | (refine fr_C ?_ (by decide)))), ⟨rfl, rfl, rfl, rfl⟩⟩⟩

set_option maxHeartbeats 4000000 in
set_option maxRecDepth 100000 in
theorem l_rdEQ {X : AX} {d : Nat} {σ0 : SG} (t : Int → Int64) (u : Int) (n : Nat) (T : Int → Int) (σ : SG) (v : Int64) (ss : List Int) (p op wa : Int) (x4 : Option AV) (hI : PsI σ u [v] ss p (-1)) (hf : (fnS T n).2.2.2.2.2 = -1) (hv : popV (evQ t (fnS T n).1) = v) (hF : PF σ0 σ) : Ev X 0 0 (d + 4) mX11_reads 26 [some (rv 88), some (iv op), some (iv wa), some (iv 0), x4] [] σ (QI (fun r σ' => σ'.1 88 5 = (fnS T n).2.2.2.2.2 ∧ r = (if (fnS T n).2.2.2.2.2 = -1 then 1 else 0) ∧ ((fnS T n).2.2.2.2.2 = -1 → σ'.2 88 11 = popV (evQ t (fnS T n).1)) ∧ σ'.1 88 3 = u ∧ PF σ0 σ')) := by
  refine e_iload_n (pc' := 27) dX11_reads_26 rfl rfl ?_
  refine e_ifI (pc' := 30) (t := 488) dX11_reads_27 (by decide) rfl ⟨by omega, by omega⟩ (fun _ => ?_) (fun c2_1 => absurd (show (0 : Int) = 0 by decide) c2_1)
  refine e_aload_n (pc' := 489) dX11_reads_488 rfl rfl ?_
  refine e_aload_n (pc' := 490) dX11_reads_489 rfl rfl ?_
  refine e_getI (pc' := 493) (v := (-1)) dX11_reads_490 rfl f_11_142 h_88 rfl hI.2.2.1 ?_
  refine e_iconst (pc' := 494) dX11_reads_493 rfl ?_
  refine e_icmpI (pc' := 497) (t := 506) dX11_reads_494 (by decide) rfl ⟨by omega, by omega⟩ ⟨by omega, by omega⟩ (fun c2_2 => absurd (show ((-1) : Int) ≠ (-1) from c2_2) (by decide)) (fun _ => ?_)
  refine e_aload_n (pc' := 498) dX11_reads_497 rfl rfl ?_
  refine e_getR (pc' := 501) dX11_reads_498 rfl f_11_20 h_88 rfl ?_
  refine e_iconst (pc' := 502) dX11_reads_501 rfl ?_
  refine e_lald (pc' := 503) (v := v) dX11_reads_502 rfl h_92 (by decide) (by omega) (by omega) hI.2.2.2.2.2.1.1 ?_
  refine e_goto (pc' := 507) dX11_reads_503 (by decide) ?_
  refine e_putJ (pc' := 510) dX11_reads_507 rfl f_11_165 h_88 rfl rfl rfl ?_
  refine e_aload_n (pc' := 511) dX11_reads_510 rfl rfl ?_
  refine e_getI (pc' := 514) (v := (-1)) dX11_reads_511 rfl f_11_142 h_88 rfl hI.2.2.1 ?_
  refine e_iconst (pc' := 515) dX11_reads_514 rfl ?_
  refine e_icmpI (pc' := 518) (t := 522) dX11_reads_515 (by decide) rfl ⟨by omega, by omega⟩ ⟨by omega, by omega⟩ (fun c2_3 => absurd (show ((-1) : Int) ≠ (-1) from c2_3) (by decide)) (fun _ => ?_)
  refine e_iconst (pc' := 519) dX11_reads_518 rfl ?_
  refine e_goto (pc' := 523) dX11_reads_519 (by decide) ?_
  exact e_zret dX11_reads_523 rfl (by decide) ⟨rfl, Nat.le_refl _⟩ ⟨_, rfl, hI.2.2.1.trans hf.symm, by rw [hf, if_pos rfl], (fun _ => hv.symm), hI.1, hF.tr ⟨(by repeat (first | exact Fr.rf | assumption | (refine fr_I ?_ (by decide)) | (refine fr_J ?_ (by decide)) | (refine fr_C ?_ (by decide)))), ⟨rfl, rfl, rfl, rfl⟩⟩⟩

set_option maxHeartbeats 8000000 in
set_option maxRecDepth 100000 in
theorem l_readsQ {X : AX} {d : Nat} {σ0 : SG} (t : Int → Int64) (u : Int) (n : Nat) (T : Int → Int) (hu : 0 ≤ u ∧ u ≤ 2) (hn : n ≤ 40) : ∀ (k p : Nat) (op wa : Int) (vs : List Int64) (ss : List Int) (σ : SG) (x4 : Option AV), n + 1 - p ≤ k → p ≤ n → ((wa = 1 ∧ RQ1 t T p op vs ss) ∨ (wa = 0 ∧ RQ0 t T n p op vs ss)) → PsI σ u vs ss p (-1) → σ.1 89 (57 + 41 * u) = n → (∀ k, 0 ≤ k → k < (n : Int) → σ.1 89 (57 + 41 * u + 1 + k) = T k ∧ chr7 (T k)) → (∀ i, 0 ≤ i → i < 5 → σ.2 94 i = t i) → PF σ0 σ → Ev X 0 0 (d + 4) mX11_reads 26 [some (rv 88), some (iv op), some (iv wa), some (iv 1), x4] [] σ (QI (fun r σ' => σ'.1 88 5 = (fnS T n).2.2.2.2.2 ∧ r = (if (fnS T n).2.2.2.2.2 = -1 then 1 else 0) ∧ ((fnS T n).2.2.2.2.2 = -1 → σ'.2 88 11 = popV (evQ t (fnS T n).1)) ∧ σ'.1 88 3 = u ∧ PF σ0 σ')) := by
  intro k
  induction k with
  | zero => intros; omega
  | succ k ih =>
  intro p op wa vs ss σ x4 hpk hpn hor hI htn htx hN hF
  rcases hor with ⟨rfl, hR⟩ | ⟨rfl, hR⟩
  · have hor0 := hR
    refine e_iload_n (pc' := 27) dX11_reads_26 rfl rfl ?_
    refine e_ifI (pc' := 30) (t := 488) dX11_reads_27 (by decide) rfl ⟨by omega, by omega⟩ (fun c4_1 => absurd (show (1 : Int) = 0 from c4_1) (by decide)) (fun _ => ?_)
    refine e_aload_n (pc' := 31) dX11_reads_30 rfl rfl ?_
    refine e_getI (pc' := 34) (v := (-1)) dX11_reads_31 rfl f_11_142 h_88 rfl hI.2.2.1 ?_
    refine e_iconst (pc' := 35) dX11_reads_34 rfl ?_
    refine e_icmpI (pc' := 38) (t := 488) dX11_reads_35 (by decide) rfl ⟨by omega, by omega⟩ ⟨by omega, by omega⟩ (fun c4_2 => absurd (show ((-1) : Int) ≠ (-1) from c4_2) (by decide)) (fun _ => ?_)
    refine e_aload_n (pc' := 39) dX11_reads_38 rfl rfl ?_
    refine e_cv0i (pc' := 42) dX11_reads_39 rfl k_11_147 h_88 rfl (Nat.le_of_ble_eq_true rfl) rfl rfl ⟨rfl, rfl⟩ ⟨Nat.zero_le _, Nat.zero_le _⟩ (s_m_ahead u n T hu ⟨by omega, by omega⟩ vs ss (-1) (n + 1) p σ (by omega) (by omega) (by omega) hI htn htx) ?_
    rintro c τ ⟨q, hq1, hq2, hq3, hq4, hI1, hF1⟩
    obtain ⟨qn, rfl⟩ : ∃ qn : Nat, q = (qn : Int) := ⟨q.toNat, by omega⟩
    have hR1 := t_blank1Q (qn - p) p qn (by omega) (by omega) hq3 hR
    have htn1 : τ.1 89 (57 + 41 * u) = n := by rw [(hF1.1 89 (by decide)).1]; exact htn
    have htx1 : ∀ k, 0 ≤ k → k < (n : Int) → τ.1 89 (57 + 41 * u + 1 + k) = T k ∧ chr7 (T k) := by rw [(hF1.1 89 (by decide)).1]; exact htx
    have hN1 : ∀ i, 0 ≤ i → i < 5 → τ.2 94 i = t i := by rw [(hF1.1 94 (by decide)).2]; exact hN
    have hrg := RQ1_rg hR1 (by omega)
    have hcr : -1 ≤ c ∧ c ≤ 127 ∧ ((qn : Int) = n ∧ c = -1 ∨ (qn : Int) < n ∧ c = T qn ∧ ¬ T qn = 32 ∧ 0 ≤ c) := by
      rcases hq4 with h | h
      · exact ⟨by omega, by omega, Or.inl h⟩
      · have := (htx qn (by omega) (by omega)).2
        have h1 := this.1
        have h2 := this.2
        exact ⟨by omega, by omega, Or.inr ⟨h.1, h.2.2, h.2.1, by omega⟩⟩
    have hF01 := hF.tr hF1
    refine e_istore (pc' := 44) (L' := [some (rv 88), some (iv op), some (iv 1), some (iv 1), some (iv c)]) dX11_reads_42 rfl (by decide) rfl ?_
    refine e_iload_n (pc' := 45) dX11_reads_44 rfl rfl ?_
    refine e_ifI (pc' := 48) (t := 254) dX11_reads_45 (by decide) rfl ⟨by omega, by omega⟩ (fun c4_3 => absurd (show (1 : Int) = 0 from c4_3) (by decide)) (fun _ => ?_)
    refine e_iload (pc' := 50) dX11_reads_48 rfl rfl ?_
    refine e_i2l (pc' := 51) dX11_reads_50 rfl ⟨by first | omega | (split <;> omega), by first | omega | (split <;> omega)⟩ ?_
    refine e_ldc2 (pc' := 54) dX11_reads_51 rfl c_11_138 ?_
    refine e_ldc2 (pc' := 57) dX11_reads_54 rfl c_11_140 ?_
    refine e_cs3i (pc' := 60) dX11_reads_57 rfl pn_11_80 k_11_80 (Nat.le_of_ble_eq_true rfl) rfl rfl ⟨rfl, rfl⟩ ⟨Nat.zero_le _, Nat.zero_le _⟩ (s_m_in c 48 57 (i64_to ⟨by omega, by omega⟩) (by decide) (by decide)) ?_
    intro r σ' hr; rw [hr.1, hr.2]; clear hr
    refine e_ifI (pc' := 63) (t := 76) dX11_reads_60 (by decide) rfl ⟨by first | omega | (split <;> omega), by first | omega | (split <;> omega)⟩ (fun (c4_4 : ((if 48 ≤ c ∧ c ≤ 57 then 1 else 0) : Int) = 0) => ?_) (fun (c4_4 : ¬ (((if 48 ≤ c ∧ c ≤ 57 then 1 else 0) : Int) = 0)) => ?_)
    · have c4_4n : ¬ (48 ≤ c ∧ c ≤ 57) := fun hpq_ => absurd (if_pos hpq_ : (if 48 ≤ c ∧ c ≤ 57 then (1 : Int) else 0) = 1) (by have := c4_4; omega)
      have c_nd : ¬ (48 ≤ c ∧ c ≤ 57) := c4_4n
      refine e_iload (pc' := 78) dX11_reads_76 rfl rfl ?_
      refine e_cs1i (pc' := 81) dX11_reads_78 rfl pn_11_158 k_11_158 (Nat.le_of_ble_eq_true rfl) rfl rfl ⟨rfl, rfl⟩ ⟨Nat.zero_le _, Nat.zero_le _⟩ (s_m_nameOf c ⟨by omega, by omega⟩) ?_
      intro r σ' hr; rw [hr.1, hr.2]; clear hr
      have c_nr := nm_rg c
      refine e_iconst (pc' := 82) dX11_reads_81 rfl ?_
      refine e_icmpI (pc' := 85) (t := 114) dX11_reads_82 (by decide) rfl ⟨by first | omega | (split <;> omega), by first | omega | (split <;> omega)⟩ ⟨by omega, by omega⟩ (fun (c6_5 : ((nmS c) : Int) = (-1)) => ?_) (fun (c6_5 : ¬ (((nmS c) : Int) = (-1))) => ?_)
      · have c_nm : nmS c = -1 := c6_5
        refine e_iload (pc' := 116) dX11_reads_114 rfl rfl ?_
        refine e_bipush (pc' := 118) (z := 33) dX11_reads_116 rfl (by decide) ?_
        refine e_icmpI (pc' := 121) (t := 128) dX11_reads_118 (by decide) rfl ⟨by first | omega | (split <;> omega), by first | omega | (split <;> omega)⟩ ⟨by omega, by omega⟩ (fun (c8_6 : (c : Int) = 33) => ?_) (fun (c8_6 : ¬ ((c : Int) = 33)) => ?_)
        · refine e_aload_n (pc' := 129) dX11_reads_128 rfl rfl ?_
          refine e_dup (pc' := 130) dX11_reads_129 rfl rfl ?_
          refine e_getI (pc' := 133) (v := (qn : Int)) dX11_reads_130 rfl f_11_116 h_88 rfl hI1.2.1 ?_
          refine e_iconst (pc' := 134) dX11_reads_133 rfl ?_
          refine e_iadd (pc' := 135) dX11_reads_134 rfl ?_
          refine e_putI (pc' := 138) dX11_reads_135 rfl f_11_116 h_88 rfl rfl rfl ?_
          refine e_aload_n (pc' := 139) dX11_reads_138 rfl rfl ?_
          refine e_getR (pc' := 142) dX11_reads_139 rfl f_11_24 h_88 rfl ?_
          refine e_aload_n (pc' := 143) dX11_reads_142 rfl rfl ?_
          refine e_getI (pc' := 146) (v := (ss.length : Int)) dX11_reads_143 rfl f_11_126 h_88 rfl hI1.2.2.2.2.1 ?_
          refine e_iload (pc' := 148) dX11_reads_146 rfl rfl ?_
          refine e_bipush (pc' := 150) (z := 33) dX11_reads_148 rfl (by decide) ?_
          refine e_icmpI (pc' := 153) (t := 159) dX11_reads_150 (by decide) rfl ⟨by first | omega | (split <;> omega), by first | omega | (split <;> omega)⟩ ⟨by omega, by omega⟩ (fun (c10_7 : (c : Int) ≠ 33) => ?_) (fun (c10_7 : ¬ ((c : Int) ≠ 33)) => ?_)
          · refine e_sipush (pc' := 162) (z := 1002) dX11_reads_159 rfl (by decide) ?_
            refine e_iast (pc' := 163) dX11_reads_162 rfl h_93 (by decide) (by omega) (by omega) ?_
            refine e_aload_n (pc' := 164) dX11_reads_163 rfl rfl ?_
            refine e_dup (pc' := 165) dX11_reads_164 rfl rfl ?_
            refine e_getI (pc' := 168) (v := (ss.length : Int)) dX11_reads_165 rfl f_11_126 h_88 rfl hI1.2.2.2.2.1 ?_
            refine e_iconst (pc' := 169) dX11_reads_168 rfl ?_
            refine e_iadd (pc' := 170) dX11_reads_169 rfl ?_
            refine e_putI (pc' := 173) dX11_reads_170 rfl f_11_126 h_88 rfl rfl rfl ?_
            refine e_goto (pc' := 485) dX11_reads_173 (by decide) ?_
            refine e_goto (pc' := 26) dX11_reads_485 (by decide) ?_
            have hqn : (qn : Int) < n := by omega
            have hcq : c = T qn := by omega
            have hFb : PF τ (upI (upI (upI τ 88 4 ((qn : Int) + 1)) 93 (ss.length : Int) 1002) 88 9 ((ss.length : Int) + 1)) := ⟨(by repeat (first | exact Fr.rf | assumption | (refine fr_I ?_ (by decide)) | (refine fr_J ?_ (by decide)) | (refine fr_C ?_ (by decide)))), ⟨rfl, rfl, rfl, rfl⟩⟩
            refine ih (qn + 1) op 1 vs (1002 :: ss) _ _ (by omega) (by omega) (Or.inl ⟨rfl, (by have q := t_preQ hR1 (by omega) (by omega); first | (rw [if_pos (by omega)] at q; exact q) | (rw [if_neg (by omega)] at q; exact q))⟩) ⟨hI1.1, rfl, hI1.2.2.1, hI1.2.2.2.1, by show (ss.length : Int) + 1 = ((1002 :: ss).length : Int); rw [List.length_cons]; omega, hI1.2.2.2.2.2.1, ⟨if_pos ⟨rfl, rfl⟩, isLst_upI (σ := upI τ 88 4 ((qn : Int) + 1)) (q := 93) (Int.le_refl _) hI1.2.2.2.2.2.2⟩⟩ htn1 htx1 hN1 (hF01.tr hFb)
          · refine e_sipush (pc' := 156) (z := 1001) dX11_reads_153 rfl (by decide) ?_
            refine e_goto (pc' := 162) dX11_reads_156 (by decide) ?_
            refine e_iast (pc' := 163) dX11_reads_162 rfl h_93 (by decide) (by omega) (by omega) ?_
            refine e_aload_n (pc' := 164) dX11_reads_163 rfl rfl ?_
            refine e_dup (pc' := 165) dX11_reads_164 rfl rfl ?_
            refine e_getI (pc' := 168) (v := (ss.length : Int)) dX11_reads_165 rfl f_11_126 h_88 rfl hI1.2.2.2.2.1 ?_
            refine e_iconst (pc' := 169) dX11_reads_168 rfl ?_
            refine e_iadd (pc' := 170) dX11_reads_169 rfl ?_
            refine e_putI (pc' := 173) dX11_reads_170 rfl f_11_126 h_88 rfl rfl rfl ?_
            refine e_goto (pc' := 485) dX11_reads_173 (by decide) ?_
            refine e_goto (pc' := 26) dX11_reads_485 (by decide) ?_
            have hqn : (qn : Int) < n := by omega
            have hcq : c = T qn := by omega
            have hFb : PF τ (upI (upI (upI τ 88 4 ((qn : Int) + 1)) 93 (ss.length : Int) 1001) 88 9 ((ss.length : Int) + 1)) := ⟨(by repeat (first | exact Fr.rf | assumption | (refine fr_I ?_ (by decide)) | (refine fr_J ?_ (by decide)) | (refine fr_C ?_ (by decide)))), ⟨rfl, rfl, rfl, rfl⟩⟩
            refine ih (qn + 1) op 1 vs (1001 :: ss) _ _ (by omega) (by omega) (Or.inl ⟨rfl, (by have q := t_preQ hR1 (by omega) (by omega); first | (rw [if_pos (by omega)] at q; exact q) | (rw [if_neg (by omega)] at q; exact q))⟩) ⟨hI1.1, rfl, hI1.2.2.1, hI1.2.2.2.1, by show (ss.length : Int) + 1 = ((1001 :: ss).length : Int); rw [List.length_cons]; omega, hI1.2.2.2.2.2.1, ⟨if_pos ⟨rfl, rfl⟩, isLst_upI (σ := upI τ 88 4 ((qn : Int) + 1)) (q := 93) (Int.le_refl _) hI1.2.2.2.2.2.2⟩⟩ htn1 htx1 hN1 (hF01.tr hFb)
        · refine e_iload (pc' := 123) dX11_reads_121 rfl rfl ?_
          refine e_bipush (pc' := 125) (z := 45) dX11_reads_123 rfl (by decide) ?_
          refine e_icmpI (pc' := 128) (t := 176) dX11_reads_125 (by decide) rfl ⟨by first | omega | (split <;> omega), by first | omega | (split <;> omega)⟩ ⟨by omega, by omega⟩ (fun (c10_7 : (c : Int) ≠ 45) => ?_) (fun (c10_7 : ¬ ((c : Int) ≠ 45)) => ?_)
          · refine e_iload (pc' := 178) dX11_reads_176 rfl rfl ?_
            refine e_bipush (pc' := 180) (z := 40) dX11_reads_178 rfl (by decide) ?_
            refine e_icmpI (pc' := 183) (t := 227) dX11_reads_180 (by decide) rfl ⟨by first | omega | (split <;> omega), by first | omega | (split <;> omega)⟩ ⟨by omega, by omega⟩ (fun (c12_8 : (c : Int) ≠ 40) => ?_) (fun (c12_8 : ¬ ((c : Int) ≠ 40)) => ?_)
            · refine e_aload_n (pc' := 228) dX11_reads_227 rfl rfl ?_
              refine e_bipush (pc' := 230) (z := 10) dX11_reads_228 rfl (by decide) ?_
              refine e_aload_n (pc' := 231) dX11_reads_230 rfl rfl ?_
              refine e_getI (pc' := 234) (v := (qn : Int)) dX11_reads_231 rfl f_11_116 h_88 rfl hI1.2.1 ?_
              refine e_imul (pc' := 235) dX11_reads_234 rfl ?_
              refine e_iload (pc' := 237) dX11_reads_235 rfl rfl ?_
              refine e_bipush (pc' := 239) (z := 40) dX11_reads_237 rfl (by decide) ?_
              refine e_icmpI (pc' := 242) (t := 246) dX11_reads_239 (by decide) rfl ⟨by first | omega | (split <;> omega), by first | omega | (split <;> omega)⟩ ⟨by omega, by omega⟩ (fun (c14_9 : (c : Int) ≠ 40) => ?_) (fun (c14_9 : ¬ ((c : Int) ≠ 40)) => ?_)
              · refine e_iconst (pc' := 247) dX11_reads_246 rfl ?_
                refine e_iadd (pc' := 248) dX11_reads_247 rfl ?_
                refine e_putI (pc' := 251) dX11_reads_248 rfl f_11_142 h_88 rfl rfl rfl ?_
                refine e_goto (pc' := 485) dX11_reads_251 (by decide) ?_
                refine e_goto (pc' := 26) dX11_reads_485 (by decide) ?_
                have hfx : (fnS T n).2.2.2.2.2 = ((10 * (qn : Int)) + 1) := by
                  rcases hcr.2.2 with ⟨h1, h2⟩ | ⟨h1, h2, h3, h4⟩
                  · have e : qn = n := by omega
                    subst e
                    exact (t_end1Q hR1).trans (by omega)
                  · have q := t_bad1Q (n := n) hR1 (by omega) h3 (by rw [← h2]; exact c_nd) (by rw [← h2]; exact c_nm) (by omega) (by omega) (by omega)
                    refine q.trans ?_
                    first | (rw [if_pos (by omega)]; try omega) | (rw [if_neg (by omega)]; try omega)
                exact l_rdFQ t u n T _ vs ss qn ((10 * (qn : Int)) + 1) op 1 _ ⟨hI1.1, hI1.2.1, rfl, hI1.2.2.2.1, hI1.2.2.2.2.1, hI1.2.2.2.2.2.1, hI1.2.2.2.2.2.2⟩ hfx (by omega) ⟨by omega, by omega⟩ (hF01.tr ⟨(by repeat (first | exact Fr.rf | assumption | (refine fr_I ?_ (by decide)) | (refine fr_J ?_ (by decide)) | (refine fr_C ?_ (by decide)))), ⟨rfl, rfl, rfl, rfl⟩⟩)
              · refine e_iconst (pc' := 243) dX11_reads_242 rfl ?_
                refine e_goto (pc' := 247) dX11_reads_243 (by decide) ?_
                refine e_iadd (pc' := 248) dX11_reads_247 rfl ?_
                refine e_putI (pc' := 251) dX11_reads_248 rfl f_11_142 h_88 rfl rfl rfl ?_
                refine e_goto (pc' := 485) dX11_reads_251 (by decide) ?_
                refine e_goto (pc' := 26) dX11_reads_485 (by decide) ?_
                have hfx : (fnS T n).2.2.2.2.2 = ((10 * (qn : Int)) + 3) := by
                  rcases hcr.2.2 with ⟨h1, h2⟩ | ⟨h1, h2, h3, h4⟩
                  · have e : qn = n := by omega
                    subst e
                    exact (t_end1Q hR1).trans (by omega)
                  · have q := t_bad1Q (n := n) hR1 (by omega) h3 (by rw [← h2]; exact c_nd) (by rw [← h2]; exact c_nm) (by omega) (by omega) (by omega)
                    refine q.trans ?_
                    first | (rw [if_pos (by omega)]; try omega) | (rw [if_neg (by omega)]; try omega)
                exact l_rdFQ t u n T _ vs ss qn ((10 * (qn : Int)) + 3) op 1 _ ⟨hI1.1, hI1.2.1, rfl, hI1.2.2.2.1, hI1.2.2.2.2.1, hI1.2.2.2.2.2.1, hI1.2.2.2.2.2.2⟩ hfx (by omega) ⟨by omega, by omega⟩ (hF01.tr ⟨(by repeat (first | exact Fr.rf | assumption | (refine fr_I ?_ (by decide)) | (refine fr_J ?_ (by decide)) | (refine fr_C ?_ (by decide)))), ⟨rfl, rfl, rfl, rfl⟩⟩)
            · refine e_iload_n (pc' := 184) dX11_reads_183 rfl rfl ?_
              refine e_bipush (pc' := 186) (z := 8) dX11_reads_184 rfl (by decide) ?_
              refine e_icmpI (pc' := 189) (t := 227) dX11_reads_186 (by decide) rfl ⟨by first | omega | (split <;> omega), by first | omega | (split <;> omega)⟩ ⟨by omega, by omega⟩ (fun (c14_9 : 8 ≤ (op : Int)) => ?_) (fun (c14_9 : ¬ (8 ≤ (op : Int))) => ?_)
              · refine e_aload_n (pc' := 228) dX11_reads_227 rfl rfl ?_
                refine e_bipush (pc' := 230) (z := 10) dX11_reads_228 rfl (by decide) ?_
                refine e_aload_n (pc' := 231) dX11_reads_230 rfl rfl ?_
                refine e_getI (pc' := 234) (v := (qn : Int)) dX11_reads_231 rfl f_11_116 h_88 rfl hI1.2.1 ?_
                refine e_imul (pc' := 235) dX11_reads_234 rfl ?_
                refine e_iload (pc' := 237) dX11_reads_235 rfl rfl ?_
                refine e_bipush (pc' := 239) (z := 40) dX11_reads_237 rfl (by decide) ?_
                refine e_icmpI (pc' := 242) (t := 246) dX11_reads_239 (by decide) rfl ⟨by first | omega | (split <;> omega), by first | omega | (split <;> omega)⟩ ⟨by omega, by omega⟩ (fun (c16_10 : (c : Int) ≠ 40) => ?_) (fun (c16_10 : ¬ ((c : Int) ≠ 40)) => ?_)
                · refine e_iconst (pc' := 247) dX11_reads_246 rfl ?_
                  refine e_iadd (pc' := 248) dX11_reads_247 rfl ?_
                  refine e_putI (pc' := 251) dX11_reads_248 rfl f_11_142 h_88 rfl rfl rfl ?_
                  refine e_goto (pc' := 485) dX11_reads_251 (by decide) ?_
                  refine e_goto (pc' := 26) dX11_reads_485 (by decide) ?_
                  have hfx : (fnS T n).2.2.2.2.2 = ((10 * (qn : Int)) + 1) := by
                    rcases hcr.2.2 with ⟨h1, h2⟩ | ⟨h1, h2, h3, h4⟩
                    · have e : qn = n := by omega
                      subst e
                      exact (t_end1Q hR1).trans (by omega)
                    · have q := t_bad1Q (n := n) hR1 (by omega) h3 (by rw [← h2]; exact c_nd) (by rw [← h2]; exact c_nm) (by omega) (by omega) (by omega)
                      refine q.trans ?_
                      first | (rw [if_pos (by omega)]; try omega) | (rw [if_neg (by omega)]; try omega)
                  exact l_rdFQ t u n T _ vs ss qn ((10 * (qn : Int)) + 1) op 1 _ ⟨hI1.1, hI1.2.1, rfl, hI1.2.2.2.1, hI1.2.2.2.2.1, hI1.2.2.2.2.2.1, hI1.2.2.2.2.2.2⟩ hfx (by omega) ⟨by omega, by omega⟩ (hF01.tr ⟨(by repeat (first | exact Fr.rf | assumption | (refine fr_I ?_ (by decide)) | (refine fr_J ?_ (by decide)) | (refine fr_C ?_ (by decide)))), ⟨rfl, rfl, rfl, rfl⟩⟩)
                · refine e_iconst (pc' := 243) dX11_reads_242 rfl ?_
                  refine e_goto (pc' := 247) dX11_reads_243 (by decide) ?_
                  refine e_iadd (pc' := 248) dX11_reads_247 rfl ?_
                  refine e_putI (pc' := 251) dX11_reads_248 rfl f_11_142 h_88 rfl rfl rfl ?_
                  refine e_goto (pc' := 485) dX11_reads_251 (by decide) ?_
                  refine e_goto (pc' := 26) dX11_reads_485 (by decide) ?_
                  have hfx : (fnS T n).2.2.2.2.2 = ((10 * (qn : Int)) + 3) := by
                    rcases hcr.2.2 with ⟨h1, h2⟩ | ⟨h1, h2, h3, h4⟩
                    · have e : qn = n := by omega
                      subst e
                      exact (t_end1Q hR1).trans (by omega)
                    · have q := t_bad1Q (n := n) hR1 (by omega) h3 (by rw [← h2]; exact c_nd) (by rw [← h2]; exact c_nm) (by omega) (by omega) (by omega)
                      refine q.trans ?_
                      first | (rw [if_pos (by omega)]; try omega) | (rw [if_neg (by omega)]; try omega)
                  exact l_rdFQ t u n T _ vs ss qn ((10 * (qn : Int)) + 3) op 1 _ ⟨hI1.1, hI1.2.1, rfl, hI1.2.2.2.1, hI1.2.2.2.2.1, hI1.2.2.2.2.2.1, hI1.2.2.2.2.2.2⟩ hfx (by omega) ⟨by omega, by omega⟩ (hF01.tr ⟨(by repeat (first | exact Fr.rf | assumption | (refine fr_I ?_ (by decide)) | (refine fr_J ?_ (by decide)) | (refine fr_C ?_ (by decide)))), ⟨rfl, rfl, rfl, rfl⟩⟩)
              · refine e_aload_n (pc' := 190) dX11_reads_189 rfl rfl ?_
                refine e_dup (pc' := 191) dX11_reads_190 rfl rfl ?_
                refine e_getI (pc' := 194) (v := (qn : Int)) dX11_reads_191 rfl f_11_116 h_88 rfl hI1.2.1 ?_
                refine e_iconst (pc' := 195) dX11_reads_194 rfl ?_
                refine e_iadd (pc' := 196) dX11_reads_195 rfl ?_
                refine e_putI (pc' := 199) dX11_reads_196 rfl f_11_116 h_88 rfl rfl rfl ?_
                refine e_iinc (pc' := 202) (L' := [some (rv 88), some (iv (op + 1)), some (iv 1), some (iv 1), some (iv c)]) dX11_reads_199 rfl rfl (by decide) rfl ?_
                refine e_aload_n (pc' := 203) dX11_reads_202 rfl rfl ?_
                refine e_getR (pc' := 206) dX11_reads_203 rfl f_11_24 h_88 rfl ?_
                refine e_aload_n (pc' := 207) dX11_reads_206 rfl rfl ?_
                refine e_getI (pc' := 210) (v := (ss.length : Int)) dX11_reads_207 rfl f_11_126 h_88 rfl hI1.2.2.2.2.1 ?_
                refine e_sipush (pc' := 213) (z := 1000) dX11_reads_210 rfl (by decide) ?_
                refine e_iast (pc' := 214) dX11_reads_213 rfl h_93 (by decide) (by omega) (by omega) ?_
                refine e_aload_n (pc' := 215) dX11_reads_214 rfl rfl ?_
                refine e_dup (pc' := 216) dX11_reads_215 rfl rfl ?_
                refine e_getI (pc' := 219) (v := (ss.length : Int)) dX11_reads_216 rfl f_11_126 h_88 rfl hI1.2.2.2.2.1 ?_
                refine e_iconst (pc' := 220) dX11_reads_219 rfl ?_
                refine e_iadd (pc' := 221) dX11_reads_220 rfl ?_
                refine e_putI (pc' := 224) dX11_reads_221 rfl f_11_126 h_88 rfl rfl rfl ?_
                refine e_goto (pc' := 485) dX11_reads_224 (by decide) ?_
                refine e_goto (pc' := 26) dX11_reads_485 (by decide) ?_
                have hqn : (qn : Int) < n := by omega
                have hcq : c = T qn := by omega
                have hFb : PF τ (upI (upI (upI τ 88 4 ((qn : Int) + 1)) 93 (ss.length : Int) 1000) 88 9 ((ss.length : Int) + 1)) := ⟨(by repeat (first | exact Fr.rf | assumption | (refine fr_I ?_ (by decide)) | (refine fr_J ?_ (by decide)) | (refine fr_C ?_ (by decide)))), ⟨rfl, rfl, rfl, rfl⟩⟩
                refine ih (qn + 1) (op + 1) 1 vs (1000 :: ss) _ _ (by omega) (by omega) (Or.inl ⟨rfl, t_opnQ hR1 (by omega) (by omega) (by omega)⟩) ⟨hI1.1, rfl, hI1.2.2.1, hI1.2.2.2.1, by show (ss.length : Int) + 1 = ((1000 :: ss).length : Int); rw [List.length_cons]; omega, hI1.2.2.2.2.2.1, ⟨if_pos ⟨rfl, rfl⟩, isLst_upI (σ := upI τ 88 4 ((qn : Int) + 1)) (q := 93) (Int.le_refl _) hI1.2.2.2.2.2.2⟩⟩ htn1 htx1 hN1 (hF01.tr hFb)
          · refine e_aload_n (pc' := 129) dX11_reads_128 rfl rfl ?_
            refine e_dup (pc' := 130) dX11_reads_129 rfl rfl ?_
            refine e_getI (pc' := 133) (v := (qn : Int)) dX11_reads_130 rfl f_11_116 h_88 rfl hI1.2.1 ?_
            refine e_iconst (pc' := 134) dX11_reads_133 rfl ?_
            refine e_iadd (pc' := 135) dX11_reads_134 rfl ?_
            refine e_putI (pc' := 138) dX11_reads_135 rfl f_11_116 h_88 rfl rfl rfl ?_
            refine e_aload_n (pc' := 139) dX11_reads_138 rfl rfl ?_
            refine e_getR (pc' := 142) dX11_reads_139 rfl f_11_24 h_88 rfl ?_
            refine e_aload_n (pc' := 143) dX11_reads_142 rfl rfl ?_
            refine e_getI (pc' := 146) (v := (ss.length : Int)) dX11_reads_143 rfl f_11_126 h_88 rfl hI1.2.2.2.2.1 ?_
            refine e_iload (pc' := 148) dX11_reads_146 rfl rfl ?_
            refine e_bipush (pc' := 150) (z := 33) dX11_reads_148 rfl (by decide) ?_
            refine e_icmpI (pc' := 153) (t := 159) dX11_reads_150 (by decide) rfl ⟨by first | omega | (split <;> omega), by first | omega | (split <;> omega)⟩ ⟨by omega, by omega⟩ (fun (c12_8 : (c : Int) ≠ 33) => ?_) (fun (c12_8 : ¬ ((c : Int) ≠ 33)) => ?_)
            · refine e_sipush (pc' := 162) (z := 1002) dX11_reads_159 rfl (by decide) ?_
              refine e_iast (pc' := 163) dX11_reads_162 rfl h_93 (by decide) (by omega) (by omega) ?_
              refine e_aload_n (pc' := 164) dX11_reads_163 rfl rfl ?_
              refine e_dup (pc' := 165) dX11_reads_164 rfl rfl ?_
              refine e_getI (pc' := 168) (v := (ss.length : Int)) dX11_reads_165 rfl f_11_126 h_88 rfl hI1.2.2.2.2.1 ?_
              refine e_iconst (pc' := 169) dX11_reads_168 rfl ?_
              refine e_iadd (pc' := 170) dX11_reads_169 rfl ?_
              refine e_putI (pc' := 173) dX11_reads_170 rfl f_11_126 h_88 rfl rfl rfl ?_
              refine e_goto (pc' := 485) dX11_reads_173 (by decide) ?_
              refine e_goto (pc' := 26) dX11_reads_485 (by decide) ?_
              have hqn : (qn : Int) < n := by omega
              have hcq : c = T qn := by omega
              have hFb : PF τ (upI (upI (upI τ 88 4 ((qn : Int) + 1)) 93 (ss.length : Int) 1002) 88 9 ((ss.length : Int) + 1)) := ⟨(by repeat (first | exact Fr.rf | assumption | (refine fr_I ?_ (by decide)) | (refine fr_J ?_ (by decide)) | (refine fr_C ?_ (by decide)))), ⟨rfl, rfl, rfl, rfl⟩⟩
              refine ih (qn + 1) op 1 vs (1002 :: ss) _ _ (by omega) (by omega) (Or.inl ⟨rfl, (by have q := t_preQ hR1 (by omega) (by omega); first | (rw [if_pos (by omega)] at q; exact q) | (rw [if_neg (by omega)] at q; exact q))⟩) ⟨hI1.1, rfl, hI1.2.2.1, hI1.2.2.2.1, by show (ss.length : Int) + 1 = ((1002 :: ss).length : Int); rw [List.length_cons]; omega, hI1.2.2.2.2.2.1, ⟨if_pos ⟨rfl, rfl⟩, isLst_upI (σ := upI τ 88 4 ((qn : Int) + 1)) (q := 93) (Int.le_refl _) hI1.2.2.2.2.2.2⟩⟩ htn1 htx1 hN1 (hF01.tr hFb)
            · refine e_sipush (pc' := 156) (z := 1001) dX11_reads_153 rfl (by decide) ?_
              refine e_goto (pc' := 162) dX11_reads_156 (by decide) ?_
              refine e_iast (pc' := 163) dX11_reads_162 rfl h_93 (by decide) (by omega) (by omega) ?_
              refine e_aload_n (pc' := 164) dX11_reads_163 rfl rfl ?_
              refine e_dup (pc' := 165) dX11_reads_164 rfl rfl ?_
              refine e_getI (pc' := 168) (v := (ss.length : Int)) dX11_reads_165 rfl f_11_126 h_88 rfl hI1.2.2.2.2.1 ?_
              refine e_iconst (pc' := 169) dX11_reads_168 rfl ?_
              refine e_iadd (pc' := 170) dX11_reads_169 rfl ?_
              refine e_putI (pc' := 173) dX11_reads_170 rfl f_11_126 h_88 rfl rfl rfl ?_
              refine e_goto (pc' := 485) dX11_reads_173 (by decide) ?_
              refine e_goto (pc' := 26) dX11_reads_485 (by decide) ?_
              have hqn : (qn : Int) < n := by omega
              have hcq : c = T qn := by omega
              have hFb : PF τ (upI (upI (upI τ 88 4 ((qn : Int) + 1)) 93 (ss.length : Int) 1001) 88 9 ((ss.length : Int) + 1)) := ⟨(by repeat (first | exact Fr.rf | assumption | (refine fr_I ?_ (by decide)) | (refine fr_J ?_ (by decide)) | (refine fr_C ?_ (by decide)))), ⟨rfl, rfl, rfl, rfl⟩⟩
              refine ih (qn + 1) op 1 vs (1001 :: ss) _ _ (by omega) (by omega) (Or.inl ⟨rfl, (by have q := t_preQ hR1 (by omega) (by omega); first | (rw [if_pos (by omega)] at q; exact q) | (rw [if_neg (by omega)] at q; exact q))⟩) ⟨hI1.1, rfl, hI1.2.2.1, hI1.2.2.2.1, by show (ss.length : Int) + 1 = ((1001 :: ss).length : Int); rw [List.length_cons]; omega, hI1.2.2.2.2.2.1, ⟨if_pos ⟨rfl, rfl⟩, isLst_upI (σ := upI τ 88 4 ((qn : Int) + 1)) (q := 93) (Int.le_refl _) hI1.2.2.2.2.2.2⟩⟩ htn1 htx1 hN1 (hF01.tr hFb)
      · have c_nm : ¬ nmS c = -1 := c6_5
        have c_nr := nm_rg c
        have hcs := (nm_iff c).mp c_nm
        have hcq : c = T qn := by omega
        have hqn : (qn : Int) < n := by omega
        refine e_aload_n (pc' := 86) dX11_reads_85 rfl rfl ?_
        refine e_dup (pc' := 87) dX11_reads_86 rfl rfl ?_
        refine e_getI (pc' := 90) (v := (qn : Int)) dX11_reads_87 rfl f_11_116 h_88 rfl hI1.2.1 ?_
        refine e_iconst (pc' := 91) dX11_reads_90 rfl ?_
        refine e_iadd (pc' := 92) dX11_reads_91 rfl ?_
        refine e_putI (pc' := 95) dX11_reads_92 rfl f_11_116 h_88 rfl rfl rfl ?_
        have hFb : PF τ (upI τ 88 4 ((qn : Int) + 1)) := ⟨(by repeat (first | exact Fr.rf | assumption | (refine fr_I ?_ (by decide)) | (refine fr_J ?_ (by decide)) | (refine fr_C ?_ (by decide)))), ⟨rfl, rfl, rfl, rfl⟩⟩
        have hI2 : PsI (upI τ 88 4 ((qn : Int) + 1)) u vs ss (qn + 1) (-1) := ⟨hI1.1, rfl, hI1.2.2.1, hI1.2.2.2.1, hI1.2.2.2.2.1, hI1.2.2.2.2.2.1, hI1.2.2.2.2.2.2⟩
        refine e_aload_n (pc' := 96) dX11_reads_95 rfl rfl ?_
        refine e_aload_n (pc' := 97) dX11_reads_96 rfl rfl ?_
        refine e_getR (pc' := 100) dX11_reads_97 rfl f_11_27 h_88 rfl ?_
        refine e_iload (pc' := 102) dX11_reads_100 rfl rfl ?_
        refine e_cs1i (pc' := 105) dX11_reads_102 rfl pn_11_158 k_11_158 (Nat.le_of_ble_eq_true rfl) rfl rfl ⟨rfl, rfl⟩ ⟨Nat.zero_le _, Nat.zero_le _⟩ (s_m_nameOf c ⟨by omega, by omega⟩) ?_
        intro r σ' hr; rw [hr.1, hr.2]; clear hr
        have c_nr := nm_rg c
        refine e_lald (pc' := 106) (v := (t (nmS c))) dX11_reads_105 rfl h_94 (by decide) (by omega) (by omega) (hN1 _ (by omega) (by omega)) ?_
        refine e_cv1v (pc' := 109) dX11_reads_106 rfl k_11_154 h_88 rfl (Nat.le_of_ble_eq_true rfl) rfl rfl ⟨rfl, rfl⟩ ⟨Nat.zero_le _, Nat.zero_le _⟩ (s_m_stands u (qn + 1) (-1) (t (nmS c)) vs ss hI2 hrg.1 (by omega) (by omega)) ?_
        rintro τ3 ⟨hI3, hF3⟩
        refine e_iconst (pc' := 110) dX11_reads_109 rfl ?_
        refine e_istore_n (pc' := 111) (L' := [some (rv 88), some (iv op), some (iv 0), some (iv 1), some (iv c)]) dX11_reads_110 rfl (by decide) rfl ?_
        refine e_goto (pc' := 485) dX11_reads_111 (by decide) ?_
        refine e_goto (pc' := 26) dX11_reads_485 (by decide) ?_
        have hR2 := t_namQ (n := n) hR1 (by omega) (by rw [← hcq]; exact c_nm)
        rw [← hcq] at hR2
        have hF13 := hFb.tr hF3
        refine ih (qn + 1) op 0 _ _ τ3 _ (by omega) (by omega) (Or.inr ⟨rfl, hR2⟩) hI3 (by rw [(hF13.1 89 (by decide)).1]; exact htn1) (by rw [(hF13.1 89 (by decide)).1]; exact htx1) (by rw [(hF13.1 94 (by decide)).2]; exact hN1) (hF01.tr hF13)
    · have c4_4n : 48 ≤ c ∧ c ≤ 57 := Classical.byContradiction (fun hpq_ => absurd (if_neg hpq_ : (if 48 ≤ c ∧ c ≤ 57 then (1 : Int) else 0) = 0) (by have := c4_4; omega))
      have hcq : c = T qn := by omega
      have hqn : (qn : Int) < n := by omega
      have hisD : isD (T qn) := by rw [← hcq]; exact c4_4n
      refine e_aload_n (pc' := 64) dX11_reads_63 rfl rfl ?_
      refine e_aload_n (pc' := 65) dX11_reads_64 rfl rfl ?_
      refine e_cv0j (pc' := 68) dX11_reads_65 rfl k_11_150 h_88 rfl (Nat.le_of_ble_eq_true rfl) rfl rfl ⟨rfl, rfl⟩ ⟨Nat.zero_le _, Nat.zero_le _⟩ (s_m_digits u n T hu ⟨by omega, by omega⟩ vs ss (-1) qn ⟨by omega, by omega⟩ hisD hI1 htn1 htx1) ?_
      rintro v1 τ2 ⟨m, fl2, hm1, hm6, hds, hmn, hI2, hor, hF2⟩
      refine e_cv1v (pc' := 71) dX11_reads_68 rfl k_11_154 h_88 rfl (Nat.le_of_ble_eq_true rfl) rfl rfl ⟨rfl, rfl⟩ ⟨Nat.zero_le _, Nat.zero_le _⟩ (s_m_stands u (qn + m) fl2 v1 vs ss hI2 hrg.1 (by omega) (by omega)) ?_
      rintro τ3 ⟨hI3, hF3⟩
      refine e_iconst (pc' := 72) dX11_reads_71 rfl ?_
      refine e_istore_n (pc' := 73) (L' := [some (rv 88), some (iv op), some (iv 0), some (iv 1), some (iv c)]) dX11_reads_72 rfl (by decide) rfl ?_
      refine e_goto (pc' := 485) dX11_reads_73 (by decide) ?_
      refine e_goto (pc' := 26) dX11_reads_485 (by decide) ?_
      rcases hor with ⟨hf2, hv1, hend⟩ | ⟨hf2, hm7, hm8, hm9⟩
      · subst hf2 hv1
        have hend' : qn + m = n ∨ ¬ isD (T ((qn + m : Nat) : Int)) := by
          rcases hend with h | h
          · exact Or.inl (by omega)
          · exact Or.inr (by rw [show ((qn + m : Nat) : Int) = (qn : Int) + (m : Int) by omega]; exact h)
        have hF13 := hF2.tr hF3
        refine ih (qn + m) op 0 _ _ τ3 _ (by omega) (by omega) (Or.inr ⟨rfl, t_digQ hR1 hm1 hm6 hds (by omega) hend'⟩) hI3 (by rw [(hF13.1 89 (by decide)).1]; exact htn1) (by rw [(hF13.1 89 (by decide)).1]; exact htx1) (by rw [(hF13.1 94 (by decide)).2]; exact hN1) (hF01.tr hF13)
      · subst hf2 hm7
        exact l_rdFQ t u n T τ3 _ _ _ _ op 0 _ hI3 (t_dig7Q hR1 (by omega) hds (by omega) hm9) (by omega) ⟨by omega, by omega⟩ (hF01.tr (hF2.tr hF3))
  · have hor0 := hR
    refine e_iload_n (pc' := 27) dX11_reads_26 rfl rfl ?_
    refine e_ifI (pc' := 30) (t := 488) dX11_reads_27 (by decide) rfl ⟨by omega, by omega⟩ (fun c4_1 => absurd (show (1 : Int) = 0 from c4_1) (by decide)) (fun _ => ?_)
    refine e_aload_n (pc' := 31) dX11_reads_30 rfl rfl ?_
    refine e_getI (pc' := 34) (v := (-1)) dX11_reads_31 rfl f_11_142 h_88 rfl hI.2.2.1 ?_
    refine e_iconst (pc' := 35) dX11_reads_34 rfl ?_
    refine e_icmpI (pc' := 38) (t := 488) dX11_reads_35 (by decide) rfl ⟨by omega, by omega⟩ ⟨by omega, by omega⟩ (fun c4_2 => absurd (show ((-1) : Int) ≠ (-1) from c4_2) (by decide)) (fun _ => ?_)
    refine e_aload_n (pc' := 39) dX11_reads_38 rfl rfl ?_
    refine e_cv0i (pc' := 42) dX11_reads_39 rfl k_11_147 h_88 rfl (Nat.le_of_ble_eq_true rfl) rfl rfl ⟨rfl, rfl⟩ ⟨Nat.zero_le _, Nat.zero_le _⟩ (s_m_ahead u n T hu ⟨by omega, by omega⟩ vs ss (-1) (n + 1) p σ (by omega) (by omega) (by omega) hI htn htx) ?_
    rintro c τ ⟨q, hq1, hq2, hq3, hq4, hI1, hF1⟩
    obtain ⟨qn, rfl⟩ : ∃ qn : Nat, q = (qn : Int) := ⟨q.toNat, by omega⟩
    have hR1 := t_blank0Q (qn - p) p qn (by omega) (by omega) hq3 hR
    have htn1 : τ.1 89 (57 + 41 * u) = n := by rw [(hF1.1 89 (by decide)).1]; exact htn
    have htx1 : ∀ k, 0 ≤ k → k < (n : Int) → τ.1 89 (57 + 41 * u + 1 + k) = T k ∧ chr7 (T k) := by rw [(hF1.1 89 (by decide)).1]; exact htx
    have hN1 : ∀ i, 0 ≤ i → i < 5 → τ.2 94 i = t i := by rw [(hF1.1 94 (by decide)).2]; exact hN
    have hrg := RQ0_rg hR1 (by omega)
    have hcr : -1 ≤ c ∧ c ≤ 127 ∧ ((qn : Int) = n ∧ c = -1 ∨ (qn : Int) < n ∧ c = T qn ∧ ¬ T qn = 32 ∧ 0 ≤ c) := by
      rcases hq4 with h | h
      · exact ⟨by omega, by omega, Or.inl h⟩
      · have := (htx qn (by omega) (by omega)).2
        have h1 := this.1
        have h2 := this.2
        exact ⟨by omega, by omega, Or.inr ⟨h.1, h.2.2, h.2.1, by omega⟩⟩
    have hF01 := hF.tr hF1
    refine e_istore (pc' := 44) (L' := [some (rv 88), some (iv op), some (iv 0), some (iv 1), some (iv c)]) dX11_reads_42 rfl (by decide) rfl ?_
    refine e_iload_n (pc' := 45) dX11_reads_44 rfl rfl ?_
    refine e_ifI (pc' := 48) (t := 254) dX11_reads_45 (by decide) rfl ⟨by omega, by omega⟩ (fun _ => ?_) (fun c4_3 => absurd (show (0 : Int) = 0 by decide) c4_3)
    refine e_iload (pc' := 256) dX11_reads_254 rfl rfl ?_
    refine e_bipush (pc' := 258) (z := 41) dX11_reads_256 rfl (by decide) ?_
    refine e_icmpI (pc' := 261) (t := 319) dX11_reads_258 (by decide) rfl ⟨by first | omega | (split <;> omega), by first | omega | (split <;> omega)⟩ ⟨by omega, by omega⟩ (fun (c4_4 : (c : Int) ≠ 41) => ?_) (fun (c4_4 : ¬ ((c : Int) ≠ 41)) => ?_)
    · refine e_iload (pc' := 321) dX11_reads_319 rfl rfl ?_
      refine e_cs1i (pc' := 324) dX11_reads_321 rfl pn_11_132 k_11_132 (Nat.le_of_ble_eq_true rfl) rfl rfl ⟨rfl, rfl⟩ ⟨Nat.zero_le _, Nat.zero_le _⟩ (s_m_rank c ⟨by omega, by omega⟩) ?_
      intro r σ' hr; rw [hr.1, hr.2]; clear hr
      have hrk := rmS_rg c
      refine e_ifI (pc' := 327) (t := 452) dX11_reads_324 (by decide) rfl ⟨by first | omega | (split <;> omega), by first | omega | (split <;> omega)⟩ (fun (c6_5 : ((rmS c) : Int) ≤ 0) => ?_) (fun (c6_5 : ¬ (((rmS c) : Int) ≤ 0)) => ?_)
      · refine e_iload (pc' := 454) dX11_reads_452 rfl rfl ?_
        refine e_iconst (pc' := 455) dX11_reads_454 rfl ?_
        refine e_icmpI (pc' := 458) (t := 472) dX11_reads_455 (by decide) rfl ⟨by first | omega | (split <;> omega), by first | omega | (split <;> omega)⟩ ⟨by omega, by omega⟩ (fun (c8_6 : (c : Int) ≠ (-1)) => ?_) (fun (c8_6 : ¬ ((c : Int) ≠ (-1))) => ?_)
        · refine e_aload_n (pc' := 473) dX11_reads_472 rfl rfl ?_
          refine e_bipush (pc' := 475) (z := 10) dX11_reads_473 rfl (by decide) ?_
          refine e_aload_n (pc' := 476) dX11_reads_475 rfl rfl ?_
          refine e_getI (pc' := 479) (v := (qn : Int)) dX11_reads_476 rfl f_11_116 h_88 rfl hI1.2.1 ?_
          refine e_imul (pc' := 480) dX11_reads_479 rfl ?_
          refine e_iconst (pc' := 481) dX11_reads_480 rfl ?_
          refine e_iadd (pc' := 482) dX11_reads_481 rfl ?_
          refine e_putI (pc' := 485) dX11_reads_482 rfl f_11_142 h_88 rfl rfl rfl ?_
          refine e_goto (pc' := 26) dX11_reads_485 (by decide) ?_
          have hfx : (fnS T n).2.2.2.2.2 = ((10 * (qn : Int)) + 1) := by
            rcases hcr.2.2 with ⟨h1, h2⟩ | ⟨h1, h2, h3, h4⟩
            · have e : qn = n := by omega
              subst e
              rw [t_end0bQ hR1 (by omega)]
            · rw [t_bad0Q (n := n) hR1 (by omega) h3 (by omega) (by rw [← h2]; omega)]
          exact l_rdFQ t u n T _ vs ss qn ((10 * (qn : Int)) + 1) op 0 _ ⟨hI1.1, hI1.2.1, rfl, hI1.2.2.2.1, hI1.2.2.2.2.1, hI1.2.2.2.2.2.1, hI1.2.2.2.2.2.2⟩ hfx (by omega) ⟨by omega, by omega⟩ (hF01.tr ⟨(by repeat (first | exact Fr.rf | assumption | (refine fr_I ?_ (by decide)) | (refine fr_J ?_ (by decide)) | (refine fr_C ?_ (by decide)))), ⟨rfl, rfl, rfl, rfl⟩⟩)
        · refine e_iload_n (pc' := 459) dX11_reads_458 rfl rfl ?_
          refine e_ifI (pc' := 462) (t := 472) dX11_reads_459 (by decide) rfl ⟨by first | omega | (split <;> omega), by first | omega | (split <;> omega)⟩ (fun (c10_7 : (op : Int) ≠ 0) => ?_) (fun (c10_7 : ¬ ((op : Int) ≠ 0)) => ?_)
          · refine e_aload_n (pc' := 473) dX11_reads_472 rfl rfl ?_
            refine e_bipush (pc' := 475) (z := 10) dX11_reads_473 rfl (by decide) ?_
            refine e_aload_n (pc' := 476) dX11_reads_475 rfl rfl ?_
            refine e_getI (pc' := 479) (v := (qn : Int)) dX11_reads_476 rfl f_11_116 h_88 rfl hI1.2.1 ?_
            refine e_imul (pc' := 480) dX11_reads_479 rfl ?_
            refine e_iconst (pc' := 481) dX11_reads_480 rfl ?_
            refine e_iadd (pc' := 482) dX11_reads_481 rfl ?_
            refine e_putI (pc' := 485) dX11_reads_482 rfl f_11_142 h_88 rfl rfl rfl ?_
            refine e_goto (pc' := 26) dX11_reads_485 (by decide) ?_
            have hfx : (fnS T n).2.2.2.2.2 = ((10 * (qn : Int)) + 1) := by
              rcases hcr.2.2 with ⟨h1, h2⟩ | ⟨h1, h2, h3, h4⟩
              · have e : qn = n := by omega
                subst e
                rw [t_end0bQ hR1 (by omega)]
              · rw [t_bad0Q (n := n) hR1 (by omega) h3 (by omega) (by rw [← h2]; omega)]
            exact l_rdFQ t u n T _ vs ss qn ((10 * (qn : Int)) + 1) op 0 _ ⟨hI1.1, hI1.2.1, rfl, hI1.2.2.2.1, hI1.2.2.2.2.1, hI1.2.2.2.2.2.1, hI1.2.2.2.2.2.2⟩ hfx (by omega) ⟨by omega, by omega⟩ (hF01.tr ⟨(by repeat (first | exact Fr.rf | assumption | (refine fr_I ?_ (by decide)) | (refine fr_J ?_ (by decide)) | (refine fr_C ?_ (by decide)))), ⟨rfl, rfl, rfl, rfl⟩⟩)
          · refine e_aload_n (pc' := 463) dX11_reads_462 rfl rfl ?_
            refine e_iconst (pc' := 464) dX11_reads_463 rfl ?_
            refine e_cv1v (pc' := 467) dX11_reads_464 rfl k_11_161 h_88 rfl (Nat.le_of_ble_eq_true rfl) rfl rfl ⟨rfl, rfl⟩ ⟨Nat.zero_le _, Nat.zero_le _⟩ (s_m_workDown u (qn : Int) (-1) 1 ⟨by decide, by decide⟩ ss vs _ hI1 hrg.1 hrg.2.2.2.1 (by omega) (by omega)) ?_
            rintro τ2 ⟨hI2, hF2⟩
            have hop0 : op = 0 := by omega
            have hqe : qn = n := by omega
            rw [hop0, hqe] at hR1
            obtain ⟨v2, hwd, hfe, hpv⟩ := t_end0Q hR1 (by omega)
            rw [hwd] at hI2
            refine e_iconst (pc' := 468) dX11_reads_467 rfl ?_
            refine e_istore_n (pc' := 469) (L' := [some (rv 88), some (iv op), some (iv 0), some (iv 0), some (iv c)]) dX11_reads_468 rfl (by decide) rfl ?_
            refine e_goto (pc' := 485) dX11_reads_469 (by decide) ?_
            refine e_goto (pc' := 26) dX11_reads_485 (by decide) ?_
            exact l_rdEQ t u n T τ2 v2 _ _ op 0 _ hI2 hfe hpv (hF01.tr hF2)
      · have hc1 : ¬ c = -1 := fun q => by rw [q] at hrk c6_5; exact absurd c6_5 (by decide)
        have hcq : c = T qn := by omega
        have hqn : (qn : Int) < n := by omega
        refine e_aload_n (pc' := 328) dX11_reads_327 rfl rfl ?_
        refine e_iload (pc' := 330) dX11_reads_328 rfl rfl ?_
        refine e_cs1i (pc' := 333) dX11_reads_330 rfl pn_11_132 k_11_132 (Nat.le_of_ble_eq_true rfl) rfl rfl ⟨rfl, rfl⟩ ⟨Nat.zero_le _, Nat.zero_le _⟩ (s_m_rank c ⟨by omega, by omega⟩) ?_
        intro r σ' hr; rw [hr.1, hr.2]; clear hr
        have hrk := rmS_rg c
        refine e_iconst (pc' := 334) dX11_reads_333 rfl ?_
        refine e_icmpI (pc' := 337) (t := 341) dX11_reads_334 (by decide) rfl ⟨by first | omega | (split <;> omega), by first | omega | (split <;> omega)⟩ ⟨by omega, by omega⟩ (fun (c8_6 : ((rmS c) : Int) ≠ 3) => ?_) (fun (c8_6 : ¬ (((rmS c) : Int) ≠ 3)) => ?_)
        · refine e_iload (pc' := 343) dX11_reads_341 rfl rfl ?_
          refine e_cs1i (pc' := 346) dX11_reads_343 rfl pn_11_132 k_11_132 (Nat.le_of_ble_eq_true rfl) rfl rfl ⟨rfl, rfl⟩ ⟨Nat.zero_le _, Nat.zero_le _⟩ (s_m_rank c ⟨by omega, by omega⟩) ?_
          intro r σ' hr; rw [hr.1, hr.2]; clear hr
          have hrk := rmS_rg c
          refine e_cv1v (pc' := 349) dX11_reads_346 rfl k_11_161 h_88 rfl (Nat.le_of_ble_eq_true rfl) rfl rfl ⟨rfl, rfl⟩ ⟨Nat.zero_le _, Nat.zero_le _⟩ (s_m_workDown u (qn : Int) (-1) (rmS c) ⟨by omega, by omega⟩ ss vs _ hI1 hrg.1 hrg.2.2.2.1 (by omega) (by omega)) ?_
          rintro τ2 ⟨hI2, hF2⟩
          obtain ⟨ss2, hss2⟩ : ∃ l, l = (wdM (rmS c) ss vs).1 := ⟨_, rfl⟩
          obtain ⟨vs2, hvs2⟩ : ∃ l, l = (wdM (rmS c) ss vs).2 := ⟨_, rfl⟩
          rw [← hss2, ← hvs2] at hI2
          have hsl2 : ss2.length ≤ 40 := by rw [hss2]; exact Nat.le_trans (wdM_le ss vs) hrg.2.1
          have hkk : (rmS c) = if rmS (T qn) = 3 then 4 else rmS (T qn) := by rw [← hcq]; split <;> omega
          refine e_iload (pc' := 351) dX11_reads_349 rfl rfl ?_
          refine e_cs1i (pc' := 354) dX11_reads_351 rfl pn_11_132 k_11_132 (Nat.le_of_ble_eq_true rfl) rfl rfl ⟨rfl, rfl⟩ ⟨Nat.zero_le _, Nat.zero_le _⟩ (s_m_rank c ⟨by omega, by omega⟩) ?_
          intro r σ' hr; rw [hr.1, hr.2]; clear hr
          have hrk := rmS_rg c
          refine e_iconst (pc' := 355) dX11_reads_354 rfl ?_
          refine e_icmpI (pc' := 358) (t := 416) dX11_reads_355 (by decide) rfl ⟨by first | omega | (split <;> omega), by first | omega | (split <;> omega)⟩ ⟨by omega, by omega⟩ (fun (c10_7 : ((rmS c) : Int) ≠ 3) => ?_) (fun (c10_7 : ¬ (((rmS c) : Int) ≠ 3)) => ?_)
          · have hnb : ¬ (rmS (T qn) = 3 ∧ ∃ x l, (wdM (rmS c) ss vs).1 = x :: l ∧ x < 1000 ∧ rmS x = 3) := by
              rintro ⟨h3, x', l', hx', hx1', hx3'⟩
              rw [← hcq] at h3
              rw [← hss2] at hx'
              have hlx' : ss2.length = l'.length + 1 := by rw [hx']; rfl
              first
                | omega
                | (rw [hxl] at hx'; injection hx' with q1 q2; subst q1; omega)
            have hR2 := t_opQ hR1 (by omega) (by omega) hkk hnb
            rw [← hss2, ← hvs2, ← hcq] at hR2
            refine e_aload_n (pc' := 417) dX11_reads_416 rfl rfl ?_
            refine e_dup (pc' := 418) dX11_reads_417 rfl rfl ?_
            refine e_getI (pc' := 421) (v := (qn : Int)) dX11_reads_418 rfl f_11_116 h_88 rfl hI2.2.1 ?_
            refine e_iconst (pc' := 422) dX11_reads_421 rfl ?_
            refine e_iadd (pc' := 423) dX11_reads_422 rfl ?_
            refine e_putI (pc' := 426) dX11_reads_423 rfl f_11_116 h_88 rfl rfl rfl ?_
            refine e_aload_n (pc' := 427) dX11_reads_426 rfl rfl ?_
            refine e_getR (pc' := 430) dX11_reads_427 rfl f_11_24 h_88 rfl ?_
            refine e_aload_n (pc' := 431) dX11_reads_430 rfl rfl ?_
            refine e_getI (pc' := 434) (v := (ss2.length : Int)) dX11_reads_431 rfl f_11_126 h_88 rfl hI2.2.2.2.2.1 ?_
            refine e_iload (pc' := 436) dX11_reads_434 rfl rfl ?_
            refine e_iast (pc' := 437) dX11_reads_436 rfl h_93 (by decide) (by omega) (by omega) ?_
            refine e_aload_n (pc' := 438) dX11_reads_437 rfl rfl ?_
            refine e_dup (pc' := 439) dX11_reads_438 rfl rfl ?_
            refine e_getI (pc' := 442) (v := (ss2.length : Int)) dX11_reads_439 rfl f_11_126 h_88 rfl hI2.2.2.2.2.1 ?_
            refine e_iconst (pc' := 443) dX11_reads_442 rfl ?_
            refine e_iadd (pc' := 444) dX11_reads_443 rfl ?_
            refine e_putI (pc' := 447) dX11_reads_444 rfl f_11_126 h_88 rfl rfl rfl ?_
            refine e_iconst (pc' := 448) dX11_reads_447 rfl ?_
            refine e_istore_n (pc' := 449) (L' := [some (rv 88), some (iv op), some (iv 1), some (iv 1), some (iv c)]) dX11_reads_448 rfl (by decide) rfl ?_
            refine e_goto (pc' := 485) dX11_reads_449 (by decide) ?_
            refine e_goto (pc' := 26) dX11_reads_485 (by decide) ?_
            have hFb : PF τ2 (upI (upI (upI τ2 88 4 ((qn : Int) + 1)) 93 (ss2.length : Int) c) 88 9 ((ss2.length : Int) + 1)) := ⟨(by repeat (first | exact Fr.rf | assumption | (refine fr_I ?_ (by decide)) | (refine fr_J ?_ (by decide)) | (refine fr_C ?_ (by decide)))), ⟨rfl, rfl, rfl, rfl⟩⟩
            have hF13 := hF2.tr hFb
            refine ih (qn + 1) op 1 vs2 (c :: ss2) (upI (upI (upI τ2 88 4 ((qn : Int) + 1)) 93 (ss2.length : Int) c) 88 9 ((ss2.length : Int) + 1)) _ (by omega) (by omega) (Or.inl ⟨rfl, hR2.1⟩) ⟨hI2.1, rfl, hI2.2.2.1, hI2.2.2.2.1, by show (ss2.length : Int) + 1 = ((c :: ss2).length : Int); rw [List.length_cons]; omega, hI2.2.2.2.2.2.1, ⟨if_pos ⟨rfl, rfl⟩, isLst_upI (σ := upI τ2 88 4 ((qn : Int) + 1)) (q := 93) (Int.le_refl _) hI2.2.2.2.2.2.2⟩⟩ (by rw [(hF13.1 89 (by decide)).1]; exact htn1) (by rw [(hF13.1 89 (by decide)).1]; exact htx1) (by rw [(hF13.1 94 (by decide)).2]; exact hN1) (hF01.tr hF13)
          · refine e_aload_n (pc' := 359) dX11_reads_358 rfl rfl ?_
            refine e_getI (pc' := 362) (v := (ss2.length : Int)) dX11_reads_359 rfl f_11_126 h_88 rfl hI2.2.2.2.2.1 ?_
            refine e_ifI (pc' := 365) (t := 416) dX11_reads_362 (by decide) rfl ⟨by first | omega | (split <;> omega), by first | omega | (split <;> omega)⟩ (fun (c12_8 : ((ss2.length : Int) : Int) ≤ 0) => ?_) (fun (c12_8 : ¬ (((ss2.length : Int) : Int) ≤ 0)) => ?_)
            · have hnb : ¬ (rmS (T qn) = 3 ∧ ∃ x l, (wdM (rmS c) ss vs).1 = x :: l ∧ x < 1000 ∧ rmS x = 3) := by
                rintro ⟨h3, x', l', hx', hx1', hx3'⟩
                rw [← hcq] at h3
                rw [← hss2] at hx'
                have hlx' : ss2.length = l'.length + 1 := by rw [hx']; rfl
                first
                  | omega
                  | (rw [hxl] at hx'; injection hx' with q1 q2; subst q1; omega)
              have hR2 := t_opQ hR1 (by omega) (by omega) hkk hnb
              rw [← hss2, ← hvs2, ← hcq] at hR2
              refine e_aload_n (pc' := 417) dX11_reads_416 rfl rfl ?_
              refine e_dup (pc' := 418) dX11_reads_417 rfl rfl ?_
              refine e_getI (pc' := 421) (v := (qn : Int)) dX11_reads_418 rfl f_11_116 h_88 rfl hI2.2.1 ?_
              refine e_iconst (pc' := 422) dX11_reads_421 rfl ?_
              refine e_iadd (pc' := 423) dX11_reads_422 rfl ?_
              refine e_putI (pc' := 426) dX11_reads_423 rfl f_11_116 h_88 rfl rfl rfl ?_
              refine e_aload_n (pc' := 427) dX11_reads_426 rfl rfl ?_
              refine e_getR (pc' := 430) dX11_reads_427 rfl f_11_24 h_88 rfl ?_
              refine e_aload_n (pc' := 431) dX11_reads_430 rfl rfl ?_
              refine e_getI (pc' := 434) (v := (ss2.length : Int)) dX11_reads_431 rfl f_11_126 h_88 rfl hI2.2.2.2.2.1 ?_
              refine e_iload (pc' := 436) dX11_reads_434 rfl rfl ?_
              refine e_iast (pc' := 437) dX11_reads_436 rfl h_93 (by decide) (by omega) (by omega) ?_
              refine e_aload_n (pc' := 438) dX11_reads_437 rfl rfl ?_
              refine e_dup (pc' := 439) dX11_reads_438 rfl rfl ?_
              refine e_getI (pc' := 442) (v := (ss2.length : Int)) dX11_reads_439 rfl f_11_126 h_88 rfl hI2.2.2.2.2.1 ?_
              refine e_iconst (pc' := 443) dX11_reads_442 rfl ?_
              refine e_iadd (pc' := 444) dX11_reads_443 rfl ?_
              refine e_putI (pc' := 447) dX11_reads_444 rfl f_11_126 h_88 rfl rfl rfl ?_
              refine e_iconst (pc' := 448) dX11_reads_447 rfl ?_
              refine e_istore_n (pc' := 449) (L' := [some (rv 88), some (iv op), some (iv 1), some (iv 1), some (iv c)]) dX11_reads_448 rfl (by decide) rfl ?_
              refine e_goto (pc' := 485) dX11_reads_449 (by decide) ?_
              refine e_goto (pc' := 26) dX11_reads_485 (by decide) ?_
              have hFb : PF τ2 (upI (upI (upI τ2 88 4 ((qn : Int) + 1)) 93 (ss2.length : Int) c) 88 9 ((ss2.length : Int) + 1)) := ⟨(by repeat (first | exact Fr.rf | assumption | (refine fr_I ?_ (by decide)) | (refine fr_J ?_ (by decide)) | (refine fr_C ?_ (by decide)))), ⟨rfl, rfl, rfl, rfl⟩⟩
              have hF13 := hF2.tr hFb
              refine ih (qn + 1) op 1 vs2 (c :: ss2) (upI (upI (upI τ2 88 4 ((qn : Int) + 1)) 93 (ss2.length : Int) c) 88 9 ((ss2.length : Int) + 1)) _ (by omega) (by omega) (Or.inl ⟨rfl, hR2.1⟩) ⟨hI2.1, rfl, hI2.2.2.1, hI2.2.2.2.1, by show (ss2.length : Int) + 1 = ((c :: ss2).length : Int); rw [List.length_cons]; omega, hI2.2.2.2.2.2.1, ⟨if_pos ⟨rfl, rfl⟩, isLst_upI (σ := upI τ2 88 4 ((qn : Int) + 1)) (q := 93) (Int.le_refl _) hI2.2.2.2.2.2.2⟩⟩ (by rw [(hF13.1 89 (by decide)).1]; exact htn1) (by rw [(hF13.1 89 (by decide)).1]; exact htx1) (by rw [(hF13.1 94 (by decide)).2]; exact hN1) (hF01.tr hF13)
            · obtain ⟨x, l, hxl⟩ : ∃ x l, ss2 = x :: l := by
                cases ss2 with
                | nil => exact absurd (show ((([] : List Int).length : Nat) : Int) ≤ 0 by decide) (by assumption)
                | cons x l => exact ⟨x, l, rfl⟩
              have hlx : ss2.length = l.length + 1 := by rw [hxl]; rfl
              have hx : τ2.1 93 ((ss2.length : Int) - 1) = x := by
                rw [show ((ss2.length : Int) - 1) = (l.length : Int) by omega]
                have q := hI2.2.2.2.2.2.2
                rw [hxl] at q
                exact q.1
              have hxr : 0 ≤ x ∧ x ≤ 1002 := wdM_sg hrg.1 (by rw [← hss2, hxl]; exact List.mem_cons_self)
              refine e_aload_n (pc' := 366) dX11_reads_365 rfl rfl ?_
              refine e_getR (pc' := 369) dX11_reads_366 rfl f_11_24 h_88 rfl ?_
              refine e_aload_n (pc' := 370) dX11_reads_369 rfl rfl ?_
              refine e_getI (pc' := 373) (v := (ss2.length : Int)) dX11_reads_370 rfl f_11_126 h_88 rfl hI2.2.2.2.2.1 ?_
              refine e_iconst (pc' := 374) dX11_reads_373 rfl ?_
              refine e_isub (pc' := 375) dX11_reads_374 rfl ?_
              refine e_iald (pc' := 376) (v := x) dX11_reads_375 rfl h_93 (by decide) (by omega) (by omega) hx ?_
              refine e_sipush (pc' := 379) (z := 1000) dX11_reads_376 rfl (by decide) ?_
              refine e_icmpI (pc' := 382) (t := 416) dX11_reads_379 (by decide) rfl ⟨by first | omega | (split <;> omega), by first | omega | (split <;> omega)⟩ ⟨by omega, by omega⟩ (fun (c14_9 : 1000 ≤ (x : Int)) => ?_) (fun (c14_9 : ¬ (1000 ≤ (x : Int))) => ?_)
              · have hnb : ¬ (rmS (T qn) = 3 ∧ ∃ x l, (wdM (rmS c) ss vs).1 = x :: l ∧ x < 1000 ∧ rmS x = 3) := by
                  rintro ⟨h3, x', l', hx', hx1', hx3'⟩
                  rw [← hcq] at h3
                  rw [← hss2] at hx'
                  have hlx' : ss2.length = l'.length + 1 := by rw [hx']; rfl
                  first
                    | omega
                    | (rw [hxl] at hx'; injection hx' with q1 q2; subst q1; omega)
                have hR2 := t_opQ hR1 (by omega) (by omega) hkk hnb
                rw [← hss2, ← hvs2, ← hcq] at hR2
                refine e_aload_n (pc' := 417) dX11_reads_416 rfl rfl ?_
                refine e_dup (pc' := 418) dX11_reads_417 rfl rfl ?_
                refine e_getI (pc' := 421) (v := (qn : Int)) dX11_reads_418 rfl f_11_116 h_88 rfl hI2.2.1 ?_
                refine e_iconst (pc' := 422) dX11_reads_421 rfl ?_
                refine e_iadd (pc' := 423) dX11_reads_422 rfl ?_
                refine e_putI (pc' := 426) dX11_reads_423 rfl f_11_116 h_88 rfl rfl rfl ?_
                refine e_aload_n (pc' := 427) dX11_reads_426 rfl rfl ?_
                refine e_getR (pc' := 430) dX11_reads_427 rfl f_11_24 h_88 rfl ?_
                refine e_aload_n (pc' := 431) dX11_reads_430 rfl rfl ?_
                refine e_getI (pc' := 434) (v := (ss2.length : Int)) dX11_reads_431 rfl f_11_126 h_88 rfl hI2.2.2.2.2.1 ?_
                refine e_iload (pc' := 436) dX11_reads_434 rfl rfl ?_
                refine e_iast (pc' := 437) dX11_reads_436 rfl h_93 (by decide) (by omega) (by omega) ?_
                refine e_aload_n (pc' := 438) dX11_reads_437 rfl rfl ?_
                refine e_dup (pc' := 439) dX11_reads_438 rfl rfl ?_
                refine e_getI (pc' := 442) (v := (ss2.length : Int)) dX11_reads_439 rfl f_11_126 h_88 rfl hI2.2.2.2.2.1 ?_
                refine e_iconst (pc' := 443) dX11_reads_442 rfl ?_
                refine e_iadd (pc' := 444) dX11_reads_443 rfl ?_
                refine e_putI (pc' := 447) dX11_reads_444 rfl f_11_126 h_88 rfl rfl rfl ?_
                refine e_iconst (pc' := 448) dX11_reads_447 rfl ?_
                refine e_istore_n (pc' := 449) (L' := [some (rv 88), some (iv op), some (iv 1), some (iv 1), some (iv c)]) dX11_reads_448 rfl (by decide) rfl ?_
                refine e_goto (pc' := 485) dX11_reads_449 (by decide) ?_
                refine e_goto (pc' := 26) dX11_reads_485 (by decide) ?_
                have hFb : PF τ2 (upI (upI (upI τ2 88 4 ((qn : Int) + 1)) 93 (ss2.length : Int) c) 88 9 ((ss2.length : Int) + 1)) := ⟨(by repeat (first | exact Fr.rf | assumption | (refine fr_I ?_ (by decide)) | (refine fr_J ?_ (by decide)) | (refine fr_C ?_ (by decide)))), ⟨rfl, rfl, rfl, rfl⟩⟩
                have hF13 := hF2.tr hFb
                refine ih (qn + 1) op 1 vs2 (c :: ss2) (upI (upI (upI τ2 88 4 ((qn : Int) + 1)) 93 (ss2.length : Int) c) 88 9 ((ss2.length : Int) + 1)) _ (by omega) (by omega) (Or.inl ⟨rfl, hR2.1⟩) ⟨hI2.1, rfl, hI2.2.2.1, hI2.2.2.2.1, by show (ss2.length : Int) + 1 = ((c :: ss2).length : Int); rw [List.length_cons]; omega, hI2.2.2.2.2.2.1, ⟨if_pos ⟨rfl, rfl⟩, isLst_upI (σ := upI τ2 88 4 ((qn : Int) + 1)) (q := 93) (Int.le_refl _) hI2.2.2.2.2.2.2⟩⟩ (by rw [(hF13.1 89 (by decide)).1]; exact htn1) (by rw [(hF13.1 89 (by decide)).1]; exact htx1) (by rw [(hF13.1 94 (by decide)).2]; exact hN1) (hF01.tr hF13)
              · refine e_aload_n (pc' := 383) dX11_reads_382 rfl rfl ?_
                refine e_getR (pc' := 386) dX11_reads_383 rfl f_11_24 h_88 rfl ?_
                refine e_aload_n (pc' := 387) dX11_reads_386 rfl rfl ?_
                refine e_getI (pc' := 390) (v := (ss2.length : Int)) dX11_reads_387 rfl f_11_126 h_88 rfl hI2.2.2.2.2.1 ?_
                refine e_iconst (pc' := 391) dX11_reads_390 rfl ?_
                refine e_isub (pc' := 392) dX11_reads_391 rfl ?_
                refine e_iald (pc' := 393) (v := x) dX11_reads_392 rfl h_93 (by decide) (by omega) (by omega) hx ?_
                refine e_cs1i (pc' := 396) dX11_reads_393 rfl pn_11_132 k_11_132 (Nat.le_of_ble_eq_true rfl) rfl rfl ⟨rfl, rfl⟩ ⟨Nat.zero_le _, Nat.zero_le _⟩ (s_m_rank x ⟨by omega, by omega⟩) ?_
                intro r σ' hr; rw [hr.1, hr.2]; clear hr
                have hrkx := rmS_rg x
                refine e_iconst (pc' := 397) dX11_reads_396 rfl ?_
                refine e_icmpI (pc' := 400) (t := 416) dX11_reads_397 (by decide) rfl ⟨by first | omega | (split <;> omega), by first | omega | (split <;> omega)⟩ ⟨by omega, by omega⟩ (fun (c16_10 : ((rmS x) : Int) ≠ 3) => ?_) (fun (c16_10 : ¬ (((rmS x) : Int) ≠ 3)) => ?_)
                · have hnb : ¬ (rmS (T qn) = 3 ∧ ∃ x l, (wdM (rmS c) ss vs).1 = x :: l ∧ x < 1000 ∧ rmS x = 3) := by
                    rintro ⟨h3, x', l', hx', hx1', hx3'⟩
                    rw [← hcq] at h3
                    rw [← hss2] at hx'
                    have hlx' : ss2.length = l'.length + 1 := by rw [hx']; rfl
                    first
                      | omega
                      | (rw [hxl] at hx'; injection hx' with q1 q2; subst q1; omega)
                  have hR2 := t_opQ hR1 (by omega) (by omega) hkk hnb
                  rw [← hss2, ← hvs2, ← hcq] at hR2
                  refine e_aload_n (pc' := 417) dX11_reads_416 rfl rfl ?_
                  refine e_dup (pc' := 418) dX11_reads_417 rfl rfl ?_
                  refine e_getI (pc' := 421) (v := (qn : Int)) dX11_reads_418 rfl f_11_116 h_88 rfl hI2.2.1 ?_
                  refine e_iconst (pc' := 422) dX11_reads_421 rfl ?_
                  refine e_iadd (pc' := 423) dX11_reads_422 rfl ?_
                  refine e_putI (pc' := 426) dX11_reads_423 rfl f_11_116 h_88 rfl rfl rfl ?_
                  refine e_aload_n (pc' := 427) dX11_reads_426 rfl rfl ?_
                  refine e_getR (pc' := 430) dX11_reads_427 rfl f_11_24 h_88 rfl ?_
                  refine e_aload_n (pc' := 431) dX11_reads_430 rfl rfl ?_
                  refine e_getI (pc' := 434) (v := (ss2.length : Int)) dX11_reads_431 rfl f_11_126 h_88 rfl hI2.2.2.2.2.1 ?_
                  refine e_iload (pc' := 436) dX11_reads_434 rfl rfl ?_
                  refine e_iast (pc' := 437) dX11_reads_436 rfl h_93 (by decide) (by omega) (by omega) ?_
                  refine e_aload_n (pc' := 438) dX11_reads_437 rfl rfl ?_
                  refine e_dup (pc' := 439) dX11_reads_438 rfl rfl ?_
                  refine e_getI (pc' := 442) (v := (ss2.length : Int)) dX11_reads_439 rfl f_11_126 h_88 rfl hI2.2.2.2.2.1 ?_
                  refine e_iconst (pc' := 443) dX11_reads_442 rfl ?_
                  refine e_iadd (pc' := 444) dX11_reads_443 rfl ?_
                  refine e_putI (pc' := 447) dX11_reads_444 rfl f_11_126 h_88 rfl rfl rfl ?_
                  refine e_iconst (pc' := 448) dX11_reads_447 rfl ?_
                  refine e_istore_n (pc' := 449) (L' := [some (rv 88), some (iv op), some (iv 1), some (iv 1), some (iv c)]) dX11_reads_448 rfl (by decide) rfl ?_
                  refine e_goto (pc' := 485) dX11_reads_449 (by decide) ?_
                  refine e_goto (pc' := 26) dX11_reads_485 (by decide) ?_
                  have hFb : PF τ2 (upI (upI (upI τ2 88 4 ((qn : Int) + 1)) 93 (ss2.length : Int) c) 88 9 ((ss2.length : Int) + 1)) := ⟨(by repeat (first | exact Fr.rf | assumption | (refine fr_I ?_ (by decide)) | (refine fr_J ?_ (by decide)) | (refine fr_C ?_ (by decide)))), ⟨rfl, rfl, rfl, rfl⟩⟩
                  have hF13 := hF2.tr hFb
                  refine ih (qn + 1) op 1 vs2 (c :: ss2) (upI (upI (upI τ2 88 4 ((qn : Int) + 1)) 93 (ss2.length : Int) c) 88 9 ((ss2.length : Int) + 1)) _ (by omega) (by omega) (Or.inl ⟨rfl, hR2.1⟩) ⟨hI2.1, rfl, hI2.2.2.1, hI2.2.2.2.1, by show (ss2.length : Int) + 1 = ((c :: ss2).length : Int); rw [List.length_cons]; omega, hI2.2.2.2.2.2.1, ⟨if_pos ⟨rfl, rfl⟩, isLst_upI (σ := upI τ2 88 4 ((qn : Int) + 1)) (q := 93) (Int.le_refl _) hI2.2.2.2.2.2.2⟩⟩ (by rw [(hF13.1 89 (by decide)).1]; exact htn1) (by rw [(hF13.1 89 (by decide)).1]; exact htx1) (by rw [(hF13.1 94 (by decide)).2]; exact hN1) (hF01.tr hF13)
                · refine e_aload_n (pc' := 401) dX11_reads_400 rfl rfl ?_
                  refine e_bipush (pc' := 403) (z := 10) dX11_reads_401 rfl (by decide) ?_
                  refine e_aload_n (pc' := 404) dX11_reads_403 rfl rfl ?_
                  refine e_getI (pc' := 407) (v := (qn : Int)) dX11_reads_404 rfl f_11_116 h_88 rfl hI2.2.1 ?_
                  refine e_imul (pc' := 408) dX11_reads_407 rfl ?_
                  refine e_iconst (pc' := 409) dX11_reads_408 rfl ?_
                  refine e_iadd (pc' := 410) dX11_reads_409 rfl ?_
                  refine e_putI (pc' := 413) dX11_reads_410 rfl f_11_142 h_88 rfl rfl rfl ?_
                  refine e_goto (pc' := 485) dX11_reads_413 (by decide) ?_
                  refine e_goto (pc' := 26) dX11_reads_485 (by decide) ?_
                  have hk4 : (if rmS (T qn) = 3 then 4 else rmS (T qn)) = (4 : Int) := by rw [← hcq]; rw [if_pos (by omega)]
                  have hfx : (fnS T n).2.2.2.2.2 = ((10 * (qn : Int)) + 1) := by
                    have q := t_opbQ (n := n) (x := x) (l := l) hR1 (by omega) (by omega) (by rw [← hcq]; omega) (by rw [← hk4, ← hkk, ← hss2]; exact hxl) (by omega) (by omega)
                    rw [q]
                  exact l_rdFQ t u n T _ vs2 ss2 qn ((10 * (qn : Int)) + 1) op 0 _ ⟨hI2.1, hI2.2.1, rfl, hI2.2.2.2.1, hI2.2.2.2.2.1, hI2.2.2.2.2.2.1, hI2.2.2.2.2.2.2⟩ hfx (by omega) ⟨by omega, by omega⟩ (hF01.tr (hF2.tr ⟨(by repeat (first | exact Fr.rf | assumption | (refine fr_I ?_ (by decide)) | (refine fr_J ?_ (by decide)) | (refine fr_C ?_ (by decide)))), ⟨rfl, rfl, rfl, rfl⟩⟩))
        · refine e_iconst (pc' := 338) dX11_reads_337 rfl ?_
          refine e_goto (pc' := 346) dX11_reads_338 (by decide) ?_
          refine e_cv1v (pc' := 349) dX11_reads_346 rfl k_11_161 h_88 rfl (Nat.le_of_ble_eq_true rfl) rfl rfl ⟨rfl, rfl⟩ ⟨Nat.zero_le _, Nat.zero_le _⟩ (s_m_workDown u (qn : Int) (-1) 4 ⟨by omega, by omega⟩ ss vs _ hI1 hrg.1 hrg.2.2.2.1 (by omega) (by omega)) ?_
          rintro τ2 ⟨hI2, hF2⟩
          obtain ⟨ss2, hss2⟩ : ∃ l, l = (wdM 4 ss vs).1 := ⟨_, rfl⟩
          obtain ⟨vs2, hvs2⟩ : ∃ l, l = (wdM 4 ss vs).2 := ⟨_, rfl⟩
          rw [← hss2, ← hvs2] at hI2
          have hsl2 : ss2.length ≤ 40 := by rw [hss2]; exact Nat.le_trans (wdM_le ss vs) hrg.2.1
          have hkk : 4 = if rmS (T qn) = 3 then 4 else rmS (T qn) := by rw [← hcq]; split <;> omega
          refine e_iload (pc' := 351) dX11_reads_349 rfl rfl ?_
          refine e_cs1i (pc' := 354) dX11_reads_351 rfl pn_11_132 k_11_132 (Nat.le_of_ble_eq_true rfl) rfl rfl ⟨rfl, rfl⟩ ⟨Nat.zero_le _, Nat.zero_le _⟩ (s_m_rank c ⟨by omega, by omega⟩) ?_
          intro r σ' hr; rw [hr.1, hr.2]; clear hr
          have hrk := rmS_rg c
          refine e_iconst (pc' := 355) dX11_reads_354 rfl ?_
          refine e_icmpI (pc' := 358) (t := 416) dX11_reads_355 (by decide) rfl ⟨by first | omega | (split <;> omega), by first | omega | (split <;> omega)⟩ ⟨by omega, by omega⟩ (fun (c10_7 : ((rmS c) : Int) ≠ 3) => ?_) (fun (c10_7 : ¬ (((rmS c) : Int) ≠ 3)) => ?_)
          · have hnb : ¬ (rmS (T qn) = 3 ∧ ∃ x l, (wdM 4 ss vs).1 = x :: l ∧ x < 1000 ∧ rmS x = 3) := by
              rintro ⟨h3, x', l', hx', hx1', hx3'⟩
              rw [← hcq] at h3
              rw [← hss2] at hx'
              have hlx' : ss2.length = l'.length + 1 := by rw [hx']; rfl
              first
                | omega
                | (rw [hxl] at hx'; injection hx' with q1 q2; subst q1; omega)
            have hR2 := t_opQ hR1 (by omega) (by omega) hkk hnb
            rw [← hss2, ← hvs2, ← hcq] at hR2
            refine e_aload_n (pc' := 417) dX11_reads_416 rfl rfl ?_
            refine e_dup (pc' := 418) dX11_reads_417 rfl rfl ?_
            refine e_getI (pc' := 421) (v := (qn : Int)) dX11_reads_418 rfl f_11_116 h_88 rfl hI2.2.1 ?_
            refine e_iconst (pc' := 422) dX11_reads_421 rfl ?_
            refine e_iadd (pc' := 423) dX11_reads_422 rfl ?_
            refine e_putI (pc' := 426) dX11_reads_423 rfl f_11_116 h_88 rfl rfl rfl ?_
            refine e_aload_n (pc' := 427) dX11_reads_426 rfl rfl ?_
            refine e_getR (pc' := 430) dX11_reads_427 rfl f_11_24 h_88 rfl ?_
            refine e_aload_n (pc' := 431) dX11_reads_430 rfl rfl ?_
            refine e_getI (pc' := 434) (v := (ss2.length : Int)) dX11_reads_431 rfl f_11_126 h_88 rfl hI2.2.2.2.2.1 ?_
            refine e_iload (pc' := 436) dX11_reads_434 rfl rfl ?_
            refine e_iast (pc' := 437) dX11_reads_436 rfl h_93 (by decide) (by omega) (by omega) ?_
            refine e_aload_n (pc' := 438) dX11_reads_437 rfl rfl ?_
            refine e_dup (pc' := 439) dX11_reads_438 rfl rfl ?_
            refine e_getI (pc' := 442) (v := (ss2.length : Int)) dX11_reads_439 rfl f_11_126 h_88 rfl hI2.2.2.2.2.1 ?_
            refine e_iconst (pc' := 443) dX11_reads_442 rfl ?_
            refine e_iadd (pc' := 444) dX11_reads_443 rfl ?_
            refine e_putI (pc' := 447) dX11_reads_444 rfl f_11_126 h_88 rfl rfl rfl ?_
            refine e_iconst (pc' := 448) dX11_reads_447 rfl ?_
            refine e_istore_n (pc' := 449) (L' := [some (rv 88), some (iv op), some (iv 1), some (iv 1), some (iv c)]) dX11_reads_448 rfl (by decide) rfl ?_
            refine e_goto (pc' := 485) dX11_reads_449 (by decide) ?_
            refine e_goto (pc' := 26) dX11_reads_485 (by decide) ?_
            have hFb : PF τ2 (upI (upI (upI τ2 88 4 ((qn : Int) + 1)) 93 (ss2.length : Int) c) 88 9 ((ss2.length : Int) + 1)) := ⟨(by repeat (first | exact Fr.rf | assumption | (refine fr_I ?_ (by decide)) | (refine fr_J ?_ (by decide)) | (refine fr_C ?_ (by decide)))), ⟨rfl, rfl, rfl, rfl⟩⟩
            have hF13 := hF2.tr hFb
            refine ih (qn + 1) op 1 vs2 (c :: ss2) (upI (upI (upI τ2 88 4 ((qn : Int) + 1)) 93 (ss2.length : Int) c) 88 9 ((ss2.length : Int) + 1)) _ (by omega) (by omega) (Or.inl ⟨rfl, hR2.1⟩) ⟨hI2.1, rfl, hI2.2.2.1, hI2.2.2.2.1, by show (ss2.length : Int) + 1 = ((c :: ss2).length : Int); rw [List.length_cons]; omega, hI2.2.2.2.2.2.1, ⟨if_pos ⟨rfl, rfl⟩, isLst_upI (σ := upI τ2 88 4 ((qn : Int) + 1)) (q := 93) (Int.le_refl _) hI2.2.2.2.2.2.2⟩⟩ (by rw [(hF13.1 89 (by decide)).1]; exact htn1) (by rw [(hF13.1 89 (by decide)).1]; exact htx1) (by rw [(hF13.1 94 (by decide)).2]; exact hN1) (hF01.tr hF13)
          · refine e_aload_n (pc' := 359) dX11_reads_358 rfl rfl ?_
            refine e_getI (pc' := 362) (v := (ss2.length : Int)) dX11_reads_359 rfl f_11_126 h_88 rfl hI2.2.2.2.2.1 ?_
            refine e_ifI (pc' := 365) (t := 416) dX11_reads_362 (by decide) rfl ⟨by first | omega | (split <;> omega), by first | omega | (split <;> omega)⟩ (fun (c12_8 : ((ss2.length : Int) : Int) ≤ 0) => ?_) (fun (c12_8 : ¬ (((ss2.length : Int) : Int) ≤ 0)) => ?_)
            · have hnb : ¬ (rmS (T qn) = 3 ∧ ∃ x l, (wdM 4 ss vs).1 = x :: l ∧ x < 1000 ∧ rmS x = 3) := by
                rintro ⟨h3, x', l', hx', hx1', hx3'⟩
                rw [← hcq] at h3
                rw [← hss2] at hx'
                have hlx' : ss2.length = l'.length + 1 := by rw [hx']; rfl
                first
                  | omega
                  | (rw [hxl] at hx'; injection hx' with q1 q2; subst q1; omega)
              have hR2 := t_opQ hR1 (by omega) (by omega) hkk hnb
              rw [← hss2, ← hvs2, ← hcq] at hR2
              refine e_aload_n (pc' := 417) dX11_reads_416 rfl rfl ?_
              refine e_dup (pc' := 418) dX11_reads_417 rfl rfl ?_
              refine e_getI (pc' := 421) (v := (qn : Int)) dX11_reads_418 rfl f_11_116 h_88 rfl hI2.2.1 ?_
              refine e_iconst (pc' := 422) dX11_reads_421 rfl ?_
              refine e_iadd (pc' := 423) dX11_reads_422 rfl ?_
              refine e_putI (pc' := 426) dX11_reads_423 rfl f_11_116 h_88 rfl rfl rfl ?_
              refine e_aload_n (pc' := 427) dX11_reads_426 rfl rfl ?_
              refine e_getR (pc' := 430) dX11_reads_427 rfl f_11_24 h_88 rfl ?_
              refine e_aload_n (pc' := 431) dX11_reads_430 rfl rfl ?_
              refine e_getI (pc' := 434) (v := (ss2.length : Int)) dX11_reads_431 rfl f_11_126 h_88 rfl hI2.2.2.2.2.1 ?_
              refine e_iload (pc' := 436) dX11_reads_434 rfl rfl ?_
              refine e_iast (pc' := 437) dX11_reads_436 rfl h_93 (by decide) (by omega) (by omega) ?_
              refine e_aload_n (pc' := 438) dX11_reads_437 rfl rfl ?_
              refine e_dup (pc' := 439) dX11_reads_438 rfl rfl ?_
              refine e_getI (pc' := 442) (v := (ss2.length : Int)) dX11_reads_439 rfl f_11_126 h_88 rfl hI2.2.2.2.2.1 ?_
              refine e_iconst (pc' := 443) dX11_reads_442 rfl ?_
              refine e_iadd (pc' := 444) dX11_reads_443 rfl ?_
              refine e_putI (pc' := 447) dX11_reads_444 rfl f_11_126 h_88 rfl rfl rfl ?_
              refine e_iconst (pc' := 448) dX11_reads_447 rfl ?_
              refine e_istore_n (pc' := 449) (L' := [some (rv 88), some (iv op), some (iv 1), some (iv 1), some (iv c)]) dX11_reads_448 rfl (by decide) rfl ?_
              refine e_goto (pc' := 485) dX11_reads_449 (by decide) ?_
              refine e_goto (pc' := 26) dX11_reads_485 (by decide) ?_
              have hFb : PF τ2 (upI (upI (upI τ2 88 4 ((qn : Int) + 1)) 93 (ss2.length : Int) c) 88 9 ((ss2.length : Int) + 1)) := ⟨(by repeat (first | exact Fr.rf | assumption | (refine fr_I ?_ (by decide)) | (refine fr_J ?_ (by decide)) | (refine fr_C ?_ (by decide)))), ⟨rfl, rfl, rfl, rfl⟩⟩
              have hF13 := hF2.tr hFb
              refine ih (qn + 1) op 1 vs2 (c :: ss2) (upI (upI (upI τ2 88 4 ((qn : Int) + 1)) 93 (ss2.length : Int) c) 88 9 ((ss2.length : Int) + 1)) _ (by omega) (by omega) (Or.inl ⟨rfl, hR2.1⟩) ⟨hI2.1, rfl, hI2.2.2.1, hI2.2.2.2.1, by show (ss2.length : Int) + 1 = ((c :: ss2).length : Int); rw [List.length_cons]; omega, hI2.2.2.2.2.2.1, ⟨if_pos ⟨rfl, rfl⟩, isLst_upI (σ := upI τ2 88 4 ((qn : Int) + 1)) (q := 93) (Int.le_refl _) hI2.2.2.2.2.2.2⟩⟩ (by rw [(hF13.1 89 (by decide)).1]; exact htn1) (by rw [(hF13.1 89 (by decide)).1]; exact htx1) (by rw [(hF13.1 94 (by decide)).2]; exact hN1) (hF01.tr hF13)
            · obtain ⟨x, l, hxl⟩ : ∃ x l, ss2 = x :: l := by
                cases ss2 with
                | nil => exact absurd (show ((([] : List Int).length : Nat) : Int) ≤ 0 by decide) (by assumption)
                | cons x l => exact ⟨x, l, rfl⟩
              have hlx : ss2.length = l.length + 1 := by rw [hxl]; rfl
              have hx : τ2.1 93 ((ss2.length : Int) - 1) = x := by
                rw [show ((ss2.length : Int) - 1) = (l.length : Int) by omega]
                have q := hI2.2.2.2.2.2.2
                rw [hxl] at q
                exact q.1
              have hxr : 0 ≤ x ∧ x ≤ 1002 := wdM_sg hrg.1 (by rw [← hss2, hxl]; exact List.mem_cons_self)
              refine e_aload_n (pc' := 366) dX11_reads_365 rfl rfl ?_
              refine e_getR (pc' := 369) dX11_reads_366 rfl f_11_24 h_88 rfl ?_
              refine e_aload_n (pc' := 370) dX11_reads_369 rfl rfl ?_
              refine e_getI (pc' := 373) (v := (ss2.length : Int)) dX11_reads_370 rfl f_11_126 h_88 rfl hI2.2.2.2.2.1 ?_
              refine e_iconst (pc' := 374) dX11_reads_373 rfl ?_
              refine e_isub (pc' := 375) dX11_reads_374 rfl ?_
              refine e_iald (pc' := 376) (v := x) dX11_reads_375 rfl h_93 (by decide) (by omega) (by omega) hx ?_
              refine e_sipush (pc' := 379) (z := 1000) dX11_reads_376 rfl (by decide) ?_
              refine e_icmpI (pc' := 382) (t := 416) dX11_reads_379 (by decide) rfl ⟨by first | omega | (split <;> omega), by first | omega | (split <;> omega)⟩ ⟨by omega, by omega⟩ (fun (c14_9 : 1000 ≤ (x : Int)) => ?_) (fun (c14_9 : ¬ (1000 ≤ (x : Int))) => ?_)
              · have hnb : ¬ (rmS (T qn) = 3 ∧ ∃ x l, (wdM 4 ss vs).1 = x :: l ∧ x < 1000 ∧ rmS x = 3) := by
                  rintro ⟨h3, x', l', hx', hx1', hx3'⟩
                  rw [← hcq] at h3
                  rw [← hss2] at hx'
                  have hlx' : ss2.length = l'.length + 1 := by rw [hx']; rfl
                  first
                    | omega
                    | (rw [hxl] at hx'; injection hx' with q1 q2; subst q1; omega)
                have hR2 := t_opQ hR1 (by omega) (by omega) hkk hnb
                rw [← hss2, ← hvs2, ← hcq] at hR2
                refine e_aload_n (pc' := 417) dX11_reads_416 rfl rfl ?_
                refine e_dup (pc' := 418) dX11_reads_417 rfl rfl ?_
                refine e_getI (pc' := 421) (v := (qn : Int)) dX11_reads_418 rfl f_11_116 h_88 rfl hI2.2.1 ?_
                refine e_iconst (pc' := 422) dX11_reads_421 rfl ?_
                refine e_iadd (pc' := 423) dX11_reads_422 rfl ?_
                refine e_putI (pc' := 426) dX11_reads_423 rfl f_11_116 h_88 rfl rfl rfl ?_
                refine e_aload_n (pc' := 427) dX11_reads_426 rfl rfl ?_
                refine e_getR (pc' := 430) dX11_reads_427 rfl f_11_24 h_88 rfl ?_
                refine e_aload_n (pc' := 431) dX11_reads_430 rfl rfl ?_
                refine e_getI (pc' := 434) (v := (ss2.length : Int)) dX11_reads_431 rfl f_11_126 h_88 rfl hI2.2.2.2.2.1 ?_
                refine e_iload (pc' := 436) dX11_reads_434 rfl rfl ?_
                refine e_iast (pc' := 437) dX11_reads_436 rfl h_93 (by decide) (by omega) (by omega) ?_
                refine e_aload_n (pc' := 438) dX11_reads_437 rfl rfl ?_
                refine e_dup (pc' := 439) dX11_reads_438 rfl rfl ?_
                refine e_getI (pc' := 442) (v := (ss2.length : Int)) dX11_reads_439 rfl f_11_126 h_88 rfl hI2.2.2.2.2.1 ?_
                refine e_iconst (pc' := 443) dX11_reads_442 rfl ?_
                refine e_iadd (pc' := 444) dX11_reads_443 rfl ?_
                refine e_putI (pc' := 447) dX11_reads_444 rfl f_11_126 h_88 rfl rfl rfl ?_
                refine e_iconst (pc' := 448) dX11_reads_447 rfl ?_
                refine e_istore_n (pc' := 449) (L' := [some (rv 88), some (iv op), some (iv 1), some (iv 1), some (iv c)]) dX11_reads_448 rfl (by decide) rfl ?_
                refine e_goto (pc' := 485) dX11_reads_449 (by decide) ?_
                refine e_goto (pc' := 26) dX11_reads_485 (by decide) ?_
                have hFb : PF τ2 (upI (upI (upI τ2 88 4 ((qn : Int) + 1)) 93 (ss2.length : Int) c) 88 9 ((ss2.length : Int) + 1)) := ⟨(by repeat (first | exact Fr.rf | assumption | (refine fr_I ?_ (by decide)) | (refine fr_J ?_ (by decide)) | (refine fr_C ?_ (by decide)))), ⟨rfl, rfl, rfl, rfl⟩⟩
                have hF13 := hF2.tr hFb
                refine ih (qn + 1) op 1 vs2 (c :: ss2) (upI (upI (upI τ2 88 4 ((qn : Int) + 1)) 93 (ss2.length : Int) c) 88 9 ((ss2.length : Int) + 1)) _ (by omega) (by omega) (Or.inl ⟨rfl, hR2.1⟩) ⟨hI2.1, rfl, hI2.2.2.1, hI2.2.2.2.1, by show (ss2.length : Int) + 1 = ((c :: ss2).length : Int); rw [List.length_cons]; omega, hI2.2.2.2.2.2.1, ⟨if_pos ⟨rfl, rfl⟩, isLst_upI (σ := upI τ2 88 4 ((qn : Int) + 1)) (q := 93) (Int.le_refl _) hI2.2.2.2.2.2.2⟩⟩ (by rw [(hF13.1 89 (by decide)).1]; exact htn1) (by rw [(hF13.1 89 (by decide)).1]; exact htx1) (by rw [(hF13.1 94 (by decide)).2]; exact hN1) (hF01.tr hF13)
              · refine e_aload_n (pc' := 383) dX11_reads_382 rfl rfl ?_
                refine e_getR (pc' := 386) dX11_reads_383 rfl f_11_24 h_88 rfl ?_
                refine e_aload_n (pc' := 387) dX11_reads_386 rfl rfl ?_
                refine e_getI (pc' := 390) (v := (ss2.length : Int)) dX11_reads_387 rfl f_11_126 h_88 rfl hI2.2.2.2.2.1 ?_
                refine e_iconst (pc' := 391) dX11_reads_390 rfl ?_
                refine e_isub (pc' := 392) dX11_reads_391 rfl ?_
                refine e_iald (pc' := 393) (v := x) dX11_reads_392 rfl h_93 (by decide) (by omega) (by omega) hx ?_
                refine e_cs1i (pc' := 396) dX11_reads_393 rfl pn_11_132 k_11_132 (Nat.le_of_ble_eq_true rfl) rfl rfl ⟨rfl, rfl⟩ ⟨Nat.zero_le _, Nat.zero_le _⟩ (s_m_rank x ⟨by omega, by omega⟩) ?_
                intro r σ' hr; rw [hr.1, hr.2]; clear hr
                have hrkx := rmS_rg x
                refine e_iconst (pc' := 397) dX11_reads_396 rfl ?_
                refine e_icmpI (pc' := 400) (t := 416) dX11_reads_397 (by decide) rfl ⟨by first | omega | (split <;> omega), by first | omega | (split <;> omega)⟩ ⟨by omega, by omega⟩ (fun (c16_10 : ((rmS x) : Int) ≠ 3) => ?_) (fun (c16_10 : ¬ (((rmS x) : Int) ≠ 3)) => ?_)
                · have hnb : ¬ (rmS (T qn) = 3 ∧ ∃ x l, (wdM 4 ss vs).1 = x :: l ∧ x < 1000 ∧ rmS x = 3) := by
                    rintro ⟨h3, x', l', hx', hx1', hx3'⟩
                    rw [← hcq] at h3
                    rw [← hss2] at hx'
                    have hlx' : ss2.length = l'.length + 1 := by rw [hx']; rfl
                    first
                      | omega
                      | (rw [hxl] at hx'; injection hx' with q1 q2; subst q1; omega)
                  have hR2 := t_opQ hR1 (by omega) (by omega) hkk hnb
                  rw [← hss2, ← hvs2, ← hcq] at hR2
                  refine e_aload_n (pc' := 417) dX11_reads_416 rfl rfl ?_
                  refine e_dup (pc' := 418) dX11_reads_417 rfl rfl ?_
                  refine e_getI (pc' := 421) (v := (qn : Int)) dX11_reads_418 rfl f_11_116 h_88 rfl hI2.2.1 ?_
                  refine e_iconst (pc' := 422) dX11_reads_421 rfl ?_
                  refine e_iadd (pc' := 423) dX11_reads_422 rfl ?_
                  refine e_putI (pc' := 426) dX11_reads_423 rfl f_11_116 h_88 rfl rfl rfl ?_
                  refine e_aload_n (pc' := 427) dX11_reads_426 rfl rfl ?_
                  refine e_getR (pc' := 430) dX11_reads_427 rfl f_11_24 h_88 rfl ?_
                  refine e_aload_n (pc' := 431) dX11_reads_430 rfl rfl ?_
                  refine e_getI (pc' := 434) (v := (ss2.length : Int)) dX11_reads_431 rfl f_11_126 h_88 rfl hI2.2.2.2.2.1 ?_
                  refine e_iload (pc' := 436) dX11_reads_434 rfl rfl ?_
                  refine e_iast (pc' := 437) dX11_reads_436 rfl h_93 (by decide) (by omega) (by omega) ?_
                  refine e_aload_n (pc' := 438) dX11_reads_437 rfl rfl ?_
                  refine e_dup (pc' := 439) dX11_reads_438 rfl rfl ?_
                  refine e_getI (pc' := 442) (v := (ss2.length : Int)) dX11_reads_439 rfl f_11_126 h_88 rfl hI2.2.2.2.2.1 ?_
                  refine e_iconst (pc' := 443) dX11_reads_442 rfl ?_
                  refine e_iadd (pc' := 444) dX11_reads_443 rfl ?_
                  refine e_putI (pc' := 447) dX11_reads_444 rfl f_11_126 h_88 rfl rfl rfl ?_
                  refine e_iconst (pc' := 448) dX11_reads_447 rfl ?_
                  refine e_istore_n (pc' := 449) (L' := [some (rv 88), some (iv op), some (iv 1), some (iv 1), some (iv c)]) dX11_reads_448 rfl (by decide) rfl ?_
                  refine e_goto (pc' := 485) dX11_reads_449 (by decide) ?_
                  refine e_goto (pc' := 26) dX11_reads_485 (by decide) ?_
                  have hFb : PF τ2 (upI (upI (upI τ2 88 4 ((qn : Int) + 1)) 93 (ss2.length : Int) c) 88 9 ((ss2.length : Int) + 1)) := ⟨(by repeat (first | exact Fr.rf | assumption | (refine fr_I ?_ (by decide)) | (refine fr_J ?_ (by decide)) | (refine fr_C ?_ (by decide)))), ⟨rfl, rfl, rfl, rfl⟩⟩
                  have hF13 := hF2.tr hFb
                  refine ih (qn + 1) op 1 vs2 (c :: ss2) (upI (upI (upI τ2 88 4 ((qn : Int) + 1)) 93 (ss2.length : Int) c) 88 9 ((ss2.length : Int) + 1)) _ (by omega) (by omega) (Or.inl ⟨rfl, hR2.1⟩) ⟨hI2.1, rfl, hI2.2.2.1, hI2.2.2.2.1, by show (ss2.length : Int) + 1 = ((c :: ss2).length : Int); rw [List.length_cons]; omega, hI2.2.2.2.2.2.1, ⟨if_pos ⟨rfl, rfl⟩, isLst_upI (σ := upI τ2 88 4 ((qn : Int) + 1)) (q := 93) (Int.le_refl _) hI2.2.2.2.2.2.2⟩⟩ (by rw [(hF13.1 89 (by decide)).1]; exact htn1) (by rw [(hF13.1 89 (by decide)).1]; exact htx1) (by rw [(hF13.1 94 (by decide)).2]; exact hN1) (hF01.tr hF13)
                · refine e_aload_n (pc' := 401) dX11_reads_400 rfl rfl ?_
                  refine e_bipush (pc' := 403) (z := 10) dX11_reads_401 rfl (by decide) ?_
                  refine e_aload_n (pc' := 404) dX11_reads_403 rfl rfl ?_
                  refine e_getI (pc' := 407) (v := (qn : Int)) dX11_reads_404 rfl f_11_116 h_88 rfl hI2.2.1 ?_
                  refine e_imul (pc' := 408) dX11_reads_407 rfl ?_
                  refine e_iconst (pc' := 409) dX11_reads_408 rfl ?_
                  refine e_iadd (pc' := 410) dX11_reads_409 rfl ?_
                  refine e_putI (pc' := 413) dX11_reads_410 rfl f_11_142 h_88 rfl rfl rfl ?_
                  refine e_goto (pc' := 485) dX11_reads_413 (by decide) ?_
                  refine e_goto (pc' := 26) dX11_reads_485 (by decide) ?_
                  have hk4 : (if rmS (T qn) = 3 then 4 else rmS (T qn)) = (4 : Int) := by rw [← hcq]; rw [if_pos (by omega)]
                  have hfx : (fnS T n).2.2.2.2.2 = ((10 * (qn : Int)) + 1) := by
                    have q := t_opbQ (n := n) (x := x) (l := l) hR1 (by omega) (by omega) (by rw [← hcq]; omega) (by rw [← hk4, ← hkk, ← hss2]; exact hxl) (by omega) (by omega)
                    rw [q]
                  exact l_rdFQ t u n T _ vs2 ss2 qn ((10 * (qn : Int)) + 1) op 0 _ ⟨hI2.1, hI2.2.1, rfl, hI2.2.2.2.1, hI2.2.2.2.2.1, hI2.2.2.2.2.2.1, hI2.2.2.2.2.2.2⟩ hfx (by omega) ⟨by omega, by omega⟩ (hF01.tr (hF2.tr ⟨(by repeat (first | exact Fr.rf | assumption | (refine fr_I ?_ (by decide)) | (refine fr_J ?_ (by decide)) | (refine fr_C ?_ (by decide)))), ⟨rfl, rfl, rfl, rfl⟩⟩))
    · have hcq : c = T qn := by omega
      have hqn : (qn : Int) < n := by omega
      refine e_iload_n (pc' := 262) dX11_reads_261 rfl rfl ?_
      refine e_ifI (pc' := 265) (t := 319) dX11_reads_262 (by decide) rfl ⟨by first | omega | (split <;> omega), by first | omega | (split <;> omega)⟩ (fun (c6_5 : (op : Int) ≤ 0) => ?_) (fun (c6_5 : ¬ ((op : Int) ≤ 0)) => ?_)
      · refine e_iload (pc' := 321) dX11_reads_319 rfl rfl ?_
        refine e_cs1i (pc' := 324) dX11_reads_321 rfl pn_11_132 k_11_132 (Nat.le_of_ble_eq_true rfl) rfl rfl ⟨rfl, rfl⟩ ⟨Nat.zero_le _, Nat.zero_le _⟩ (s_m_rank c ⟨by omega, by omega⟩) ?_
        intro r σ' hr; rw [hr.1, hr.2]; clear hr
        have hrk := rmS_rg c
        refine e_ifI (pc' := 327) (t := 452) dX11_reads_324 (by decide) rfl ⟨by first | omega | (split <;> omega), by first | omega | (split <;> omega)⟩ (fun (c8_6 : ((rmS c) : Int) ≤ 0) => ?_) (fun (c8_6 : ¬ (((rmS c) : Int) ≤ 0)) => ?_)
        · refine e_iload (pc' := 454) dX11_reads_452 rfl rfl ?_
          refine e_iconst (pc' := 455) dX11_reads_454 rfl ?_
          refine e_icmpI (pc' := 458) (t := 472) dX11_reads_455 (by decide) rfl ⟨by first | omega | (split <;> omega), by first | omega | (split <;> omega)⟩ ⟨by omega, by omega⟩ (fun (c10_7 : (c : Int) ≠ (-1)) => ?_) (fun (c10_7 : ¬ ((c : Int) ≠ (-1))) => ?_)
          · refine e_aload_n (pc' := 473) dX11_reads_472 rfl rfl ?_
            refine e_bipush (pc' := 475) (z := 10) dX11_reads_473 rfl (by decide) ?_
            refine e_aload_n (pc' := 476) dX11_reads_475 rfl rfl ?_
            refine e_getI (pc' := 479) (v := (qn : Int)) dX11_reads_476 rfl f_11_116 h_88 rfl hI1.2.1 ?_
            refine e_imul (pc' := 480) dX11_reads_479 rfl ?_
            refine e_iconst (pc' := 481) dX11_reads_480 rfl ?_
            refine e_iadd (pc' := 482) dX11_reads_481 rfl ?_
            refine e_putI (pc' := 485) dX11_reads_482 rfl f_11_142 h_88 rfl rfl rfl ?_
            refine e_goto (pc' := 26) dX11_reads_485 (by decide) ?_
            have hfx : (fnS T n).2.2.2.2.2 = ((10 * (qn : Int)) + 1) := by
              rcases hcr.2.2 with ⟨h1, h2⟩ | ⟨h1, h2, h3, h4⟩
              · have e : qn = n := by omega
                subst e
                rw [t_end0bQ hR1 (by omega)]
              · rw [t_bad0Q (n := n) hR1 (by omega) h3 (by omega) (by rw [← h2]; omega)]
            exact l_rdFQ t u n T _ vs ss qn ((10 * (qn : Int)) + 1) op 0 _ ⟨hI1.1, hI1.2.1, rfl, hI1.2.2.2.1, hI1.2.2.2.2.1, hI1.2.2.2.2.2.1, hI1.2.2.2.2.2.2⟩ hfx (by omega) ⟨by omega, by omega⟩ (hF01.tr ⟨(by repeat (first | exact Fr.rf | assumption | (refine fr_I ?_ (by decide)) | (refine fr_J ?_ (by decide)) | (refine fr_C ?_ (by decide)))), ⟨rfl, rfl, rfl, rfl⟩⟩)
          · refine e_iload_n (pc' := 459) dX11_reads_458 rfl rfl ?_
            refine e_ifI (pc' := 462) (t := 472) dX11_reads_459 (by decide) rfl ⟨by first | omega | (split <;> omega), by first | omega | (split <;> omega)⟩ (fun (c12_8 : (op : Int) ≠ 0) => ?_) (fun (c12_8 : ¬ ((op : Int) ≠ 0)) => ?_)
            · refine e_aload_n (pc' := 473) dX11_reads_472 rfl rfl ?_
              refine e_bipush (pc' := 475) (z := 10) dX11_reads_473 rfl (by decide) ?_
              refine e_aload_n (pc' := 476) dX11_reads_475 rfl rfl ?_
              refine e_getI (pc' := 479) (v := (qn : Int)) dX11_reads_476 rfl f_11_116 h_88 rfl hI1.2.1 ?_
              refine e_imul (pc' := 480) dX11_reads_479 rfl ?_
              refine e_iconst (pc' := 481) dX11_reads_480 rfl ?_
              refine e_iadd (pc' := 482) dX11_reads_481 rfl ?_
              refine e_putI (pc' := 485) dX11_reads_482 rfl f_11_142 h_88 rfl rfl rfl ?_
              refine e_goto (pc' := 26) dX11_reads_485 (by decide) ?_
              have hfx : (fnS T n).2.2.2.2.2 = ((10 * (qn : Int)) + 1) := by
                rcases hcr.2.2 with ⟨h1, h2⟩ | ⟨h1, h2, h3, h4⟩
                · have e : qn = n := by omega
                  subst e
                  rw [t_end0bQ hR1 (by omega)]
                · rw [t_bad0Q (n := n) hR1 (by omega) h3 (by omega) (by rw [← h2]; omega)]
              exact l_rdFQ t u n T _ vs ss qn ((10 * (qn : Int)) + 1) op 0 _ ⟨hI1.1, hI1.2.1, rfl, hI1.2.2.2.1, hI1.2.2.2.2.1, hI1.2.2.2.2.2.1, hI1.2.2.2.2.2.2⟩ hfx (by omega) ⟨by omega, by omega⟩ (hF01.tr ⟨(by repeat (first | exact Fr.rf | assumption | (refine fr_I ?_ (by decide)) | (refine fr_J ?_ (by decide)) | (refine fr_C ?_ (by decide)))), ⟨rfl, rfl, rfl, rfl⟩⟩)
            · refine e_aload_n (pc' := 463) dX11_reads_462 rfl rfl ?_
              refine e_iconst (pc' := 464) dX11_reads_463 rfl ?_
              refine e_cv1v (pc' := 467) dX11_reads_464 rfl k_11_161 h_88 rfl (Nat.le_of_ble_eq_true rfl) rfl rfl ⟨rfl, rfl⟩ ⟨Nat.zero_le _, Nat.zero_le _⟩ (s_m_workDown u (qn : Int) (-1) 1 ⟨by decide, by decide⟩ ss vs _ hI1 hrg.1 hrg.2.2.2.1 (by omega) (by omega)) ?_
              rintro τ2 ⟨hI2, hF2⟩
              have hop0 : op = 0 := by omega
              have hqe : qn = n := by omega
              rw [hop0, hqe] at hR1
              obtain ⟨v2, hwd, hfe, hpv⟩ := t_end0Q hR1 (by omega)
              rw [hwd] at hI2
              refine e_iconst (pc' := 468) dX11_reads_467 rfl ?_
              refine e_istore_n (pc' := 469) (L' := [some (rv 88), some (iv op), some (iv 0), some (iv 0), some (iv c)]) dX11_reads_468 rfl (by decide) rfl ?_
              refine e_goto (pc' := 485) dX11_reads_469 (by decide) ?_
              refine e_goto (pc' := 26) dX11_reads_485 (by decide) ?_
              exact l_rdEQ t u n T τ2 v2 _ _ op 0 _ hI2 hfe hpv (hF01.tr hF2)
        · have hc1 : ¬ c = -1 := fun q => by rw [q] at hrk c8_6; exact absurd c8_6 (by decide)
          have hcq : c = T qn := by omega
          have hqn : (qn : Int) < n := by omega
          refine e_aload_n (pc' := 328) dX11_reads_327 rfl rfl ?_
          refine e_iload (pc' := 330) dX11_reads_328 rfl rfl ?_
          refine e_cs1i (pc' := 333) dX11_reads_330 rfl pn_11_132 k_11_132 (Nat.le_of_ble_eq_true rfl) rfl rfl ⟨rfl, rfl⟩ ⟨Nat.zero_le _, Nat.zero_le _⟩ (s_m_rank c ⟨by omega, by omega⟩) ?_
          intro r σ' hr; rw [hr.1, hr.2]; clear hr
          have hrk := rmS_rg c
          refine e_iconst (pc' := 334) dX11_reads_333 rfl ?_
          refine e_icmpI (pc' := 337) (t := 341) dX11_reads_334 (by decide) rfl ⟨by first | omega | (split <;> omega), by first | omega | (split <;> omega)⟩ ⟨by omega, by omega⟩ (fun (c10_7 : ((rmS c) : Int) ≠ 3) => ?_) (fun (c10_7 : ¬ (((rmS c) : Int) ≠ 3)) => ?_)
          · refine e_iload (pc' := 343) dX11_reads_341 rfl rfl ?_
            refine e_cs1i (pc' := 346) dX11_reads_343 rfl pn_11_132 k_11_132 (Nat.le_of_ble_eq_true rfl) rfl rfl ⟨rfl, rfl⟩ ⟨Nat.zero_le _, Nat.zero_le _⟩ (s_m_rank c ⟨by omega, by omega⟩) ?_
            intro r σ' hr; rw [hr.1, hr.2]; clear hr
            have hrk := rmS_rg c
            refine e_cv1v (pc' := 349) dX11_reads_346 rfl k_11_161 h_88 rfl (Nat.le_of_ble_eq_true rfl) rfl rfl ⟨rfl, rfl⟩ ⟨Nat.zero_le _, Nat.zero_le _⟩ (s_m_workDown u (qn : Int) (-1) (rmS c) ⟨by omega, by omega⟩ ss vs _ hI1 hrg.1 hrg.2.2.2.1 (by omega) (by omega)) ?_
            rintro τ2 ⟨hI2, hF2⟩
            obtain ⟨ss2, hss2⟩ : ∃ l, l = (wdM (rmS c) ss vs).1 := ⟨_, rfl⟩
            obtain ⟨vs2, hvs2⟩ : ∃ l, l = (wdM (rmS c) ss vs).2 := ⟨_, rfl⟩
            rw [← hss2, ← hvs2] at hI2
            have hsl2 : ss2.length ≤ 40 := by rw [hss2]; exact Nat.le_trans (wdM_le ss vs) hrg.2.1
            have hkk : (rmS c) = if rmS (T qn) = 3 then 4 else rmS (T qn) := by rw [← hcq]; split <;> omega
            refine e_iload (pc' := 351) dX11_reads_349 rfl rfl ?_
            refine e_cs1i (pc' := 354) dX11_reads_351 rfl pn_11_132 k_11_132 (Nat.le_of_ble_eq_true rfl) rfl rfl ⟨rfl, rfl⟩ ⟨Nat.zero_le _, Nat.zero_le _⟩ (s_m_rank c ⟨by omega, by omega⟩) ?_
            intro r σ' hr; rw [hr.1, hr.2]; clear hr
            have hrk := rmS_rg c
            refine e_iconst (pc' := 355) dX11_reads_354 rfl ?_
            refine e_icmpI (pc' := 358) (t := 416) dX11_reads_355 (by decide) rfl ⟨by first | omega | (split <;> omega), by first | omega | (split <;> omega)⟩ ⟨by omega, by omega⟩ (fun (c12_8 : ((rmS c) : Int) ≠ 3) => ?_) (fun (c12_8 : ¬ (((rmS c) : Int) ≠ 3)) => ?_)
            · have hnb : ¬ (rmS (T qn) = 3 ∧ ∃ x l, (wdM (rmS c) ss vs).1 = x :: l ∧ x < 1000 ∧ rmS x = 3) := by
                rintro ⟨h3, x', l', hx', hx1', hx3'⟩
                rw [← hcq] at h3
                rw [← hss2] at hx'
                have hlx' : ss2.length = l'.length + 1 := by rw [hx']; rfl
                first
                  | omega
                  | (rw [hxl] at hx'; injection hx' with q1 q2; subst q1; omega)
              have hR2 := t_opQ hR1 (by omega) (by omega) hkk hnb
              rw [← hss2, ← hvs2, ← hcq] at hR2
              refine e_aload_n (pc' := 417) dX11_reads_416 rfl rfl ?_
              refine e_dup (pc' := 418) dX11_reads_417 rfl rfl ?_
              refine e_getI (pc' := 421) (v := (qn : Int)) dX11_reads_418 rfl f_11_116 h_88 rfl hI2.2.1 ?_
              refine e_iconst (pc' := 422) dX11_reads_421 rfl ?_
              refine e_iadd (pc' := 423) dX11_reads_422 rfl ?_
              refine e_putI (pc' := 426) dX11_reads_423 rfl f_11_116 h_88 rfl rfl rfl ?_
              refine e_aload_n (pc' := 427) dX11_reads_426 rfl rfl ?_
              refine e_getR (pc' := 430) dX11_reads_427 rfl f_11_24 h_88 rfl ?_
              refine e_aload_n (pc' := 431) dX11_reads_430 rfl rfl ?_
              refine e_getI (pc' := 434) (v := (ss2.length : Int)) dX11_reads_431 rfl f_11_126 h_88 rfl hI2.2.2.2.2.1 ?_
              refine e_iload (pc' := 436) dX11_reads_434 rfl rfl ?_
              refine e_iast (pc' := 437) dX11_reads_436 rfl h_93 (by decide) (by omega) (by omega) ?_
              refine e_aload_n (pc' := 438) dX11_reads_437 rfl rfl ?_
              refine e_dup (pc' := 439) dX11_reads_438 rfl rfl ?_
              refine e_getI (pc' := 442) (v := (ss2.length : Int)) dX11_reads_439 rfl f_11_126 h_88 rfl hI2.2.2.2.2.1 ?_
              refine e_iconst (pc' := 443) dX11_reads_442 rfl ?_
              refine e_iadd (pc' := 444) dX11_reads_443 rfl ?_
              refine e_putI (pc' := 447) dX11_reads_444 rfl f_11_126 h_88 rfl rfl rfl ?_
              refine e_iconst (pc' := 448) dX11_reads_447 rfl ?_
              refine e_istore_n (pc' := 449) (L' := [some (rv 88), some (iv op), some (iv 1), some (iv 1), some (iv c)]) dX11_reads_448 rfl (by decide) rfl ?_
              refine e_goto (pc' := 485) dX11_reads_449 (by decide) ?_
              refine e_goto (pc' := 26) dX11_reads_485 (by decide) ?_
              have hFb : PF τ2 (upI (upI (upI τ2 88 4 ((qn : Int) + 1)) 93 (ss2.length : Int) c) 88 9 ((ss2.length : Int) + 1)) := ⟨(by repeat (first | exact Fr.rf | assumption | (refine fr_I ?_ (by decide)) | (refine fr_J ?_ (by decide)) | (refine fr_C ?_ (by decide)))), ⟨rfl, rfl, rfl, rfl⟩⟩
              have hF13 := hF2.tr hFb
              refine ih (qn + 1) op 1 vs2 (c :: ss2) (upI (upI (upI τ2 88 4 ((qn : Int) + 1)) 93 (ss2.length : Int) c) 88 9 ((ss2.length : Int) + 1)) _ (by omega) (by omega) (Or.inl ⟨rfl, hR2.1⟩) ⟨hI2.1, rfl, hI2.2.2.1, hI2.2.2.2.1, by show (ss2.length : Int) + 1 = ((c :: ss2).length : Int); rw [List.length_cons]; omega, hI2.2.2.2.2.2.1, ⟨if_pos ⟨rfl, rfl⟩, isLst_upI (σ := upI τ2 88 4 ((qn : Int) + 1)) (q := 93) (Int.le_refl _) hI2.2.2.2.2.2.2⟩⟩ (by rw [(hF13.1 89 (by decide)).1]; exact htn1) (by rw [(hF13.1 89 (by decide)).1]; exact htx1) (by rw [(hF13.1 94 (by decide)).2]; exact hN1) (hF01.tr hF13)
            · refine e_aload_n (pc' := 359) dX11_reads_358 rfl rfl ?_
              refine e_getI (pc' := 362) (v := (ss2.length : Int)) dX11_reads_359 rfl f_11_126 h_88 rfl hI2.2.2.2.2.1 ?_
              refine e_ifI (pc' := 365) (t := 416) dX11_reads_362 (by decide) rfl ⟨by first | omega | (split <;> omega), by first | omega | (split <;> omega)⟩ (fun (c14_9 : ((ss2.length : Int) : Int) ≤ 0) => ?_) (fun (c14_9 : ¬ (((ss2.length : Int) : Int) ≤ 0)) => ?_)
              · have hnb : ¬ (rmS (T qn) = 3 ∧ ∃ x l, (wdM (rmS c) ss vs).1 = x :: l ∧ x < 1000 ∧ rmS x = 3) := by
                  rintro ⟨h3, x', l', hx', hx1', hx3'⟩
                  rw [← hcq] at h3
                  rw [← hss2] at hx'
                  have hlx' : ss2.length = l'.length + 1 := by rw [hx']; rfl
                  first
                    | omega
                    | (rw [hxl] at hx'; injection hx' with q1 q2; subst q1; omega)
                have hR2 := t_opQ hR1 (by omega) (by omega) hkk hnb
                rw [← hss2, ← hvs2, ← hcq] at hR2
                refine e_aload_n (pc' := 417) dX11_reads_416 rfl rfl ?_
                refine e_dup (pc' := 418) dX11_reads_417 rfl rfl ?_
                refine e_getI (pc' := 421) (v := (qn : Int)) dX11_reads_418 rfl f_11_116 h_88 rfl hI2.2.1 ?_
                refine e_iconst (pc' := 422) dX11_reads_421 rfl ?_
                refine e_iadd (pc' := 423) dX11_reads_422 rfl ?_
                refine e_putI (pc' := 426) dX11_reads_423 rfl f_11_116 h_88 rfl rfl rfl ?_
                refine e_aload_n (pc' := 427) dX11_reads_426 rfl rfl ?_
                refine e_getR (pc' := 430) dX11_reads_427 rfl f_11_24 h_88 rfl ?_
                refine e_aload_n (pc' := 431) dX11_reads_430 rfl rfl ?_
                refine e_getI (pc' := 434) (v := (ss2.length : Int)) dX11_reads_431 rfl f_11_126 h_88 rfl hI2.2.2.2.2.1 ?_
                refine e_iload (pc' := 436) dX11_reads_434 rfl rfl ?_
                refine e_iast (pc' := 437) dX11_reads_436 rfl h_93 (by decide) (by omega) (by omega) ?_
                refine e_aload_n (pc' := 438) dX11_reads_437 rfl rfl ?_
                refine e_dup (pc' := 439) dX11_reads_438 rfl rfl ?_
                refine e_getI (pc' := 442) (v := (ss2.length : Int)) dX11_reads_439 rfl f_11_126 h_88 rfl hI2.2.2.2.2.1 ?_
                refine e_iconst (pc' := 443) dX11_reads_442 rfl ?_
                refine e_iadd (pc' := 444) dX11_reads_443 rfl ?_
                refine e_putI (pc' := 447) dX11_reads_444 rfl f_11_126 h_88 rfl rfl rfl ?_
                refine e_iconst (pc' := 448) dX11_reads_447 rfl ?_
                refine e_istore_n (pc' := 449) (L' := [some (rv 88), some (iv op), some (iv 1), some (iv 1), some (iv c)]) dX11_reads_448 rfl (by decide) rfl ?_
                refine e_goto (pc' := 485) dX11_reads_449 (by decide) ?_
                refine e_goto (pc' := 26) dX11_reads_485 (by decide) ?_
                have hFb : PF τ2 (upI (upI (upI τ2 88 4 ((qn : Int) + 1)) 93 (ss2.length : Int) c) 88 9 ((ss2.length : Int) + 1)) := ⟨(by repeat (first | exact Fr.rf | assumption | (refine fr_I ?_ (by decide)) | (refine fr_J ?_ (by decide)) | (refine fr_C ?_ (by decide)))), ⟨rfl, rfl, rfl, rfl⟩⟩
                have hF13 := hF2.tr hFb
                refine ih (qn + 1) op 1 vs2 (c :: ss2) (upI (upI (upI τ2 88 4 ((qn : Int) + 1)) 93 (ss2.length : Int) c) 88 9 ((ss2.length : Int) + 1)) _ (by omega) (by omega) (Or.inl ⟨rfl, hR2.1⟩) ⟨hI2.1, rfl, hI2.2.2.1, hI2.2.2.2.1, by show (ss2.length : Int) + 1 = ((c :: ss2).length : Int); rw [List.length_cons]; omega, hI2.2.2.2.2.2.1, ⟨if_pos ⟨rfl, rfl⟩, isLst_upI (σ := upI τ2 88 4 ((qn : Int) + 1)) (q := 93) (Int.le_refl _) hI2.2.2.2.2.2.2⟩⟩ (by rw [(hF13.1 89 (by decide)).1]; exact htn1) (by rw [(hF13.1 89 (by decide)).1]; exact htx1) (by rw [(hF13.1 94 (by decide)).2]; exact hN1) (hF01.tr hF13)
              · obtain ⟨x, l, hxl⟩ : ∃ x l, ss2 = x :: l := by
                  cases ss2 with
                  | nil => exact absurd (show ((([] : List Int).length : Nat) : Int) ≤ 0 by decide) (by assumption)
                  | cons x l => exact ⟨x, l, rfl⟩
                have hlx : ss2.length = l.length + 1 := by rw [hxl]; rfl
                have hx : τ2.1 93 ((ss2.length : Int) - 1) = x := by
                  rw [show ((ss2.length : Int) - 1) = (l.length : Int) by omega]
                  have q := hI2.2.2.2.2.2.2
                  rw [hxl] at q
                  exact q.1
                have hxr : 0 ≤ x ∧ x ≤ 1002 := wdM_sg hrg.1 (by rw [← hss2, hxl]; exact List.mem_cons_self)
                refine e_aload_n (pc' := 366) dX11_reads_365 rfl rfl ?_
                refine e_getR (pc' := 369) dX11_reads_366 rfl f_11_24 h_88 rfl ?_
                refine e_aload_n (pc' := 370) dX11_reads_369 rfl rfl ?_
                refine e_getI (pc' := 373) (v := (ss2.length : Int)) dX11_reads_370 rfl f_11_126 h_88 rfl hI2.2.2.2.2.1 ?_
                refine e_iconst (pc' := 374) dX11_reads_373 rfl ?_
                refine e_isub (pc' := 375) dX11_reads_374 rfl ?_
                refine e_iald (pc' := 376) (v := x) dX11_reads_375 rfl h_93 (by decide) (by omega) (by omega) hx ?_
                refine e_sipush (pc' := 379) (z := 1000) dX11_reads_376 rfl (by decide) ?_
                refine e_icmpI (pc' := 382) (t := 416) dX11_reads_379 (by decide) rfl ⟨by first | omega | (split <;> omega), by first | omega | (split <;> omega)⟩ ⟨by omega, by omega⟩ (fun (c16_10 : 1000 ≤ (x : Int)) => ?_) (fun (c16_10 : ¬ (1000 ≤ (x : Int))) => ?_)
                · have hnb : ¬ (rmS (T qn) = 3 ∧ ∃ x l, (wdM (rmS c) ss vs).1 = x :: l ∧ x < 1000 ∧ rmS x = 3) := by
                    rintro ⟨h3, x', l', hx', hx1', hx3'⟩
                    rw [← hcq] at h3
                    rw [← hss2] at hx'
                    have hlx' : ss2.length = l'.length + 1 := by rw [hx']; rfl
                    first
                      | omega
                      | (rw [hxl] at hx'; injection hx' with q1 q2; subst q1; omega)
                  have hR2 := t_opQ hR1 (by omega) (by omega) hkk hnb
                  rw [← hss2, ← hvs2, ← hcq] at hR2
                  refine e_aload_n (pc' := 417) dX11_reads_416 rfl rfl ?_
                  refine e_dup (pc' := 418) dX11_reads_417 rfl rfl ?_
                  refine e_getI (pc' := 421) (v := (qn : Int)) dX11_reads_418 rfl f_11_116 h_88 rfl hI2.2.1 ?_
                  refine e_iconst (pc' := 422) dX11_reads_421 rfl ?_
                  refine e_iadd (pc' := 423) dX11_reads_422 rfl ?_
                  refine e_putI (pc' := 426) dX11_reads_423 rfl f_11_116 h_88 rfl rfl rfl ?_
                  refine e_aload_n (pc' := 427) dX11_reads_426 rfl rfl ?_
                  refine e_getR (pc' := 430) dX11_reads_427 rfl f_11_24 h_88 rfl ?_
                  refine e_aload_n (pc' := 431) dX11_reads_430 rfl rfl ?_
                  refine e_getI (pc' := 434) (v := (ss2.length : Int)) dX11_reads_431 rfl f_11_126 h_88 rfl hI2.2.2.2.2.1 ?_
                  refine e_iload (pc' := 436) dX11_reads_434 rfl rfl ?_
                  refine e_iast (pc' := 437) dX11_reads_436 rfl h_93 (by decide) (by omega) (by omega) ?_
                  refine e_aload_n (pc' := 438) dX11_reads_437 rfl rfl ?_
                  refine e_dup (pc' := 439) dX11_reads_438 rfl rfl ?_
                  refine e_getI (pc' := 442) (v := (ss2.length : Int)) dX11_reads_439 rfl f_11_126 h_88 rfl hI2.2.2.2.2.1 ?_
                  refine e_iconst (pc' := 443) dX11_reads_442 rfl ?_
                  refine e_iadd (pc' := 444) dX11_reads_443 rfl ?_
                  refine e_putI (pc' := 447) dX11_reads_444 rfl f_11_126 h_88 rfl rfl rfl ?_
                  refine e_iconst (pc' := 448) dX11_reads_447 rfl ?_
                  refine e_istore_n (pc' := 449) (L' := [some (rv 88), some (iv op), some (iv 1), some (iv 1), some (iv c)]) dX11_reads_448 rfl (by decide) rfl ?_
                  refine e_goto (pc' := 485) dX11_reads_449 (by decide) ?_
                  refine e_goto (pc' := 26) dX11_reads_485 (by decide) ?_
                  have hFb : PF τ2 (upI (upI (upI τ2 88 4 ((qn : Int) + 1)) 93 (ss2.length : Int) c) 88 9 ((ss2.length : Int) + 1)) := ⟨(by repeat (first | exact Fr.rf | assumption | (refine fr_I ?_ (by decide)) | (refine fr_J ?_ (by decide)) | (refine fr_C ?_ (by decide)))), ⟨rfl, rfl, rfl, rfl⟩⟩
                  have hF13 := hF2.tr hFb
                  refine ih (qn + 1) op 1 vs2 (c :: ss2) (upI (upI (upI τ2 88 4 ((qn : Int) + 1)) 93 (ss2.length : Int) c) 88 9 ((ss2.length : Int) + 1)) _ (by omega) (by omega) (Or.inl ⟨rfl, hR2.1⟩) ⟨hI2.1, rfl, hI2.2.2.1, hI2.2.2.2.1, by show (ss2.length : Int) + 1 = ((c :: ss2).length : Int); rw [List.length_cons]; omega, hI2.2.2.2.2.2.1, ⟨if_pos ⟨rfl, rfl⟩, isLst_upI (σ := upI τ2 88 4 ((qn : Int) + 1)) (q := 93) (Int.le_refl _) hI2.2.2.2.2.2.2⟩⟩ (by rw [(hF13.1 89 (by decide)).1]; exact htn1) (by rw [(hF13.1 89 (by decide)).1]; exact htx1) (by rw [(hF13.1 94 (by decide)).2]; exact hN1) (hF01.tr hF13)
                · refine e_aload_n (pc' := 383) dX11_reads_382 rfl rfl ?_
                  refine e_getR (pc' := 386) dX11_reads_383 rfl f_11_24 h_88 rfl ?_
                  refine e_aload_n (pc' := 387) dX11_reads_386 rfl rfl ?_
                  refine e_getI (pc' := 390) (v := (ss2.length : Int)) dX11_reads_387 rfl f_11_126 h_88 rfl hI2.2.2.2.2.1 ?_
                  refine e_iconst (pc' := 391) dX11_reads_390 rfl ?_
                  refine e_isub (pc' := 392) dX11_reads_391 rfl ?_
                  refine e_iald (pc' := 393) (v := x) dX11_reads_392 rfl h_93 (by decide) (by omega) (by omega) hx ?_
                  refine e_cs1i (pc' := 396) dX11_reads_393 rfl pn_11_132 k_11_132 (Nat.le_of_ble_eq_true rfl) rfl rfl ⟨rfl, rfl⟩ ⟨Nat.zero_le _, Nat.zero_le _⟩ (s_m_rank x ⟨by omega, by omega⟩) ?_
                  intro r σ' hr; rw [hr.1, hr.2]; clear hr
                  have hrkx := rmS_rg x
                  refine e_iconst (pc' := 397) dX11_reads_396 rfl ?_
                  refine e_icmpI (pc' := 400) (t := 416) dX11_reads_397 (by decide) rfl ⟨by first | omega | (split <;> omega), by first | omega | (split <;> omega)⟩ ⟨by omega, by omega⟩ (fun (c18_11 : ((rmS x) : Int) ≠ 3) => ?_) (fun (c18_11 : ¬ (((rmS x) : Int) ≠ 3)) => ?_)
                  · have hnb : ¬ (rmS (T qn) = 3 ∧ ∃ x l, (wdM (rmS c) ss vs).1 = x :: l ∧ x < 1000 ∧ rmS x = 3) := by
                      rintro ⟨h3, x', l', hx', hx1', hx3'⟩
                      rw [← hcq] at h3
                      rw [← hss2] at hx'
                      have hlx' : ss2.length = l'.length + 1 := by rw [hx']; rfl
                      first
                        | omega
                        | (rw [hxl] at hx'; injection hx' with q1 q2; subst q1; omega)
                    have hR2 := t_opQ hR1 (by omega) (by omega) hkk hnb
                    rw [← hss2, ← hvs2, ← hcq] at hR2
                    refine e_aload_n (pc' := 417) dX11_reads_416 rfl rfl ?_
                    refine e_dup (pc' := 418) dX11_reads_417 rfl rfl ?_
                    refine e_getI (pc' := 421) (v := (qn : Int)) dX11_reads_418 rfl f_11_116 h_88 rfl hI2.2.1 ?_
                    refine e_iconst (pc' := 422) dX11_reads_421 rfl ?_
                    refine e_iadd (pc' := 423) dX11_reads_422 rfl ?_
                    refine e_putI (pc' := 426) dX11_reads_423 rfl f_11_116 h_88 rfl rfl rfl ?_
                    refine e_aload_n (pc' := 427) dX11_reads_426 rfl rfl ?_
                    refine e_getR (pc' := 430) dX11_reads_427 rfl f_11_24 h_88 rfl ?_
                    refine e_aload_n (pc' := 431) dX11_reads_430 rfl rfl ?_
                    refine e_getI (pc' := 434) (v := (ss2.length : Int)) dX11_reads_431 rfl f_11_126 h_88 rfl hI2.2.2.2.2.1 ?_
                    refine e_iload (pc' := 436) dX11_reads_434 rfl rfl ?_
                    refine e_iast (pc' := 437) dX11_reads_436 rfl h_93 (by decide) (by omega) (by omega) ?_
                    refine e_aload_n (pc' := 438) dX11_reads_437 rfl rfl ?_
                    refine e_dup (pc' := 439) dX11_reads_438 rfl rfl ?_
                    refine e_getI (pc' := 442) (v := (ss2.length : Int)) dX11_reads_439 rfl f_11_126 h_88 rfl hI2.2.2.2.2.1 ?_
                    refine e_iconst (pc' := 443) dX11_reads_442 rfl ?_
                    refine e_iadd (pc' := 444) dX11_reads_443 rfl ?_
                    refine e_putI (pc' := 447) dX11_reads_444 rfl f_11_126 h_88 rfl rfl rfl ?_
                    refine e_iconst (pc' := 448) dX11_reads_447 rfl ?_
                    refine e_istore_n (pc' := 449) (L' := [some (rv 88), some (iv op), some (iv 1), some (iv 1), some (iv c)]) dX11_reads_448 rfl (by decide) rfl ?_
                    refine e_goto (pc' := 485) dX11_reads_449 (by decide) ?_
                    refine e_goto (pc' := 26) dX11_reads_485 (by decide) ?_
                    have hFb : PF τ2 (upI (upI (upI τ2 88 4 ((qn : Int) + 1)) 93 (ss2.length : Int) c) 88 9 ((ss2.length : Int) + 1)) := ⟨(by repeat (first | exact Fr.rf | assumption | (refine fr_I ?_ (by decide)) | (refine fr_J ?_ (by decide)) | (refine fr_C ?_ (by decide)))), ⟨rfl, rfl, rfl, rfl⟩⟩
                    have hF13 := hF2.tr hFb
                    refine ih (qn + 1) op 1 vs2 (c :: ss2) (upI (upI (upI τ2 88 4 ((qn : Int) + 1)) 93 (ss2.length : Int) c) 88 9 ((ss2.length : Int) + 1)) _ (by omega) (by omega) (Or.inl ⟨rfl, hR2.1⟩) ⟨hI2.1, rfl, hI2.2.2.1, hI2.2.2.2.1, by show (ss2.length : Int) + 1 = ((c :: ss2).length : Int); rw [List.length_cons]; omega, hI2.2.2.2.2.2.1, ⟨if_pos ⟨rfl, rfl⟩, isLst_upI (σ := upI τ2 88 4 ((qn : Int) + 1)) (q := 93) (Int.le_refl _) hI2.2.2.2.2.2.2⟩⟩ (by rw [(hF13.1 89 (by decide)).1]; exact htn1) (by rw [(hF13.1 89 (by decide)).1]; exact htx1) (by rw [(hF13.1 94 (by decide)).2]; exact hN1) (hF01.tr hF13)
                  · refine e_aload_n (pc' := 401) dX11_reads_400 rfl rfl ?_
                    refine e_bipush (pc' := 403) (z := 10) dX11_reads_401 rfl (by decide) ?_
                    refine e_aload_n (pc' := 404) dX11_reads_403 rfl rfl ?_
                    refine e_getI (pc' := 407) (v := (qn : Int)) dX11_reads_404 rfl f_11_116 h_88 rfl hI2.2.1 ?_
                    refine e_imul (pc' := 408) dX11_reads_407 rfl ?_
                    refine e_iconst (pc' := 409) dX11_reads_408 rfl ?_
                    refine e_iadd (pc' := 410) dX11_reads_409 rfl ?_
                    refine e_putI (pc' := 413) dX11_reads_410 rfl f_11_142 h_88 rfl rfl rfl ?_
                    refine e_goto (pc' := 485) dX11_reads_413 (by decide) ?_
                    refine e_goto (pc' := 26) dX11_reads_485 (by decide) ?_
                    have hk4 : (if rmS (T qn) = 3 then 4 else rmS (T qn)) = (4 : Int) := by rw [← hcq]; rw [if_pos (by omega)]
                    have hfx : (fnS T n).2.2.2.2.2 = ((10 * (qn : Int)) + 1) := by
                      have q := t_opbQ (n := n) (x := x) (l := l) hR1 (by omega) (by omega) (by rw [← hcq]; omega) (by rw [← hk4, ← hkk, ← hss2]; exact hxl) (by omega) (by omega)
                      rw [q]
                    exact l_rdFQ t u n T _ vs2 ss2 qn ((10 * (qn : Int)) + 1) op 0 _ ⟨hI2.1, hI2.2.1, rfl, hI2.2.2.2.1, hI2.2.2.2.2.1, hI2.2.2.2.2.2.1, hI2.2.2.2.2.2.2⟩ hfx (by omega) ⟨by omega, by omega⟩ (hF01.tr (hF2.tr ⟨(by repeat (first | exact Fr.rf | assumption | (refine fr_I ?_ (by decide)) | (refine fr_J ?_ (by decide)) | (refine fr_C ?_ (by decide)))), ⟨rfl, rfl, rfl, rfl⟩⟩))
          · refine e_iconst (pc' := 338) dX11_reads_337 rfl ?_
            refine e_goto (pc' := 346) dX11_reads_338 (by decide) ?_
            refine e_cv1v (pc' := 349) dX11_reads_346 rfl k_11_161 h_88 rfl (Nat.le_of_ble_eq_true rfl) rfl rfl ⟨rfl, rfl⟩ ⟨Nat.zero_le _, Nat.zero_le _⟩ (s_m_workDown u (qn : Int) (-1) 4 ⟨by omega, by omega⟩ ss vs _ hI1 hrg.1 hrg.2.2.2.1 (by omega) (by omega)) ?_
            rintro τ2 ⟨hI2, hF2⟩
            obtain ⟨ss2, hss2⟩ : ∃ l, l = (wdM 4 ss vs).1 := ⟨_, rfl⟩
            obtain ⟨vs2, hvs2⟩ : ∃ l, l = (wdM 4 ss vs).2 := ⟨_, rfl⟩
            rw [← hss2, ← hvs2] at hI2
            have hsl2 : ss2.length ≤ 40 := by rw [hss2]; exact Nat.le_trans (wdM_le ss vs) hrg.2.1
            have hkk : 4 = if rmS (T qn) = 3 then 4 else rmS (T qn) := by rw [← hcq]; split <;> omega
            refine e_iload (pc' := 351) dX11_reads_349 rfl rfl ?_
            refine e_cs1i (pc' := 354) dX11_reads_351 rfl pn_11_132 k_11_132 (Nat.le_of_ble_eq_true rfl) rfl rfl ⟨rfl, rfl⟩ ⟨Nat.zero_le _, Nat.zero_le _⟩ (s_m_rank c ⟨by omega, by omega⟩) ?_
            intro r σ' hr; rw [hr.1, hr.2]; clear hr
            have hrk := rmS_rg c
            refine e_iconst (pc' := 355) dX11_reads_354 rfl ?_
            refine e_icmpI (pc' := 358) (t := 416) dX11_reads_355 (by decide) rfl ⟨by first | omega | (split <;> omega), by first | omega | (split <;> omega)⟩ ⟨by omega, by omega⟩ (fun (c12_8 : ((rmS c) : Int) ≠ 3) => ?_) (fun (c12_8 : ¬ (((rmS c) : Int) ≠ 3)) => ?_)
            · have hnb : ¬ (rmS (T qn) = 3 ∧ ∃ x l, (wdM 4 ss vs).1 = x :: l ∧ x < 1000 ∧ rmS x = 3) := by
                rintro ⟨h3, x', l', hx', hx1', hx3'⟩
                rw [← hcq] at h3
                rw [← hss2] at hx'
                have hlx' : ss2.length = l'.length + 1 := by rw [hx']; rfl
                first
                  | omega
                  | (rw [hxl] at hx'; injection hx' with q1 q2; subst q1; omega)
              have hR2 := t_opQ hR1 (by omega) (by omega) hkk hnb
              rw [← hss2, ← hvs2, ← hcq] at hR2
              refine e_aload_n (pc' := 417) dX11_reads_416 rfl rfl ?_
              refine e_dup (pc' := 418) dX11_reads_417 rfl rfl ?_
              refine e_getI (pc' := 421) (v := (qn : Int)) dX11_reads_418 rfl f_11_116 h_88 rfl hI2.2.1 ?_
              refine e_iconst (pc' := 422) dX11_reads_421 rfl ?_
              refine e_iadd (pc' := 423) dX11_reads_422 rfl ?_
              refine e_putI (pc' := 426) dX11_reads_423 rfl f_11_116 h_88 rfl rfl rfl ?_
              refine e_aload_n (pc' := 427) dX11_reads_426 rfl rfl ?_
              refine e_getR (pc' := 430) dX11_reads_427 rfl f_11_24 h_88 rfl ?_
              refine e_aload_n (pc' := 431) dX11_reads_430 rfl rfl ?_
              refine e_getI (pc' := 434) (v := (ss2.length : Int)) dX11_reads_431 rfl f_11_126 h_88 rfl hI2.2.2.2.2.1 ?_
              refine e_iload (pc' := 436) dX11_reads_434 rfl rfl ?_
              refine e_iast (pc' := 437) dX11_reads_436 rfl h_93 (by decide) (by omega) (by omega) ?_
              refine e_aload_n (pc' := 438) dX11_reads_437 rfl rfl ?_
              refine e_dup (pc' := 439) dX11_reads_438 rfl rfl ?_
              refine e_getI (pc' := 442) (v := (ss2.length : Int)) dX11_reads_439 rfl f_11_126 h_88 rfl hI2.2.2.2.2.1 ?_
              refine e_iconst (pc' := 443) dX11_reads_442 rfl ?_
              refine e_iadd (pc' := 444) dX11_reads_443 rfl ?_
              refine e_putI (pc' := 447) dX11_reads_444 rfl f_11_126 h_88 rfl rfl rfl ?_
              refine e_iconst (pc' := 448) dX11_reads_447 rfl ?_
              refine e_istore_n (pc' := 449) (L' := [some (rv 88), some (iv op), some (iv 1), some (iv 1), some (iv c)]) dX11_reads_448 rfl (by decide) rfl ?_
              refine e_goto (pc' := 485) dX11_reads_449 (by decide) ?_
              refine e_goto (pc' := 26) dX11_reads_485 (by decide) ?_
              have hFb : PF τ2 (upI (upI (upI τ2 88 4 ((qn : Int) + 1)) 93 (ss2.length : Int) c) 88 9 ((ss2.length : Int) + 1)) := ⟨(by repeat (first | exact Fr.rf | assumption | (refine fr_I ?_ (by decide)) | (refine fr_J ?_ (by decide)) | (refine fr_C ?_ (by decide)))), ⟨rfl, rfl, rfl, rfl⟩⟩
              have hF13 := hF2.tr hFb
              refine ih (qn + 1) op 1 vs2 (c :: ss2) (upI (upI (upI τ2 88 4 ((qn : Int) + 1)) 93 (ss2.length : Int) c) 88 9 ((ss2.length : Int) + 1)) _ (by omega) (by omega) (Or.inl ⟨rfl, hR2.1⟩) ⟨hI2.1, rfl, hI2.2.2.1, hI2.2.2.2.1, by show (ss2.length : Int) + 1 = ((c :: ss2).length : Int); rw [List.length_cons]; omega, hI2.2.2.2.2.2.1, ⟨if_pos ⟨rfl, rfl⟩, isLst_upI (σ := upI τ2 88 4 ((qn : Int) + 1)) (q := 93) (Int.le_refl _) hI2.2.2.2.2.2.2⟩⟩ (by rw [(hF13.1 89 (by decide)).1]; exact htn1) (by rw [(hF13.1 89 (by decide)).1]; exact htx1) (by rw [(hF13.1 94 (by decide)).2]; exact hN1) (hF01.tr hF13)
            · refine e_aload_n (pc' := 359) dX11_reads_358 rfl rfl ?_
              refine e_getI (pc' := 362) (v := (ss2.length : Int)) dX11_reads_359 rfl f_11_126 h_88 rfl hI2.2.2.2.2.1 ?_
              refine e_ifI (pc' := 365) (t := 416) dX11_reads_362 (by decide) rfl ⟨by first | omega | (split <;> omega), by first | omega | (split <;> omega)⟩ (fun (c14_9 : ((ss2.length : Int) : Int) ≤ 0) => ?_) (fun (c14_9 : ¬ (((ss2.length : Int) : Int) ≤ 0)) => ?_)
              · have hnb : ¬ (rmS (T qn) = 3 ∧ ∃ x l, (wdM 4 ss vs).1 = x :: l ∧ x < 1000 ∧ rmS x = 3) := by
                  rintro ⟨h3, x', l', hx', hx1', hx3'⟩
                  rw [← hcq] at h3
                  rw [← hss2] at hx'
                  have hlx' : ss2.length = l'.length + 1 := by rw [hx']; rfl
                  first
                    | omega
                    | (rw [hxl] at hx'; injection hx' with q1 q2; subst q1; omega)
                have hR2 := t_opQ hR1 (by omega) (by omega) hkk hnb
                rw [← hss2, ← hvs2, ← hcq] at hR2
                refine e_aload_n (pc' := 417) dX11_reads_416 rfl rfl ?_
                refine e_dup (pc' := 418) dX11_reads_417 rfl rfl ?_
                refine e_getI (pc' := 421) (v := (qn : Int)) dX11_reads_418 rfl f_11_116 h_88 rfl hI2.2.1 ?_
                refine e_iconst (pc' := 422) dX11_reads_421 rfl ?_
                refine e_iadd (pc' := 423) dX11_reads_422 rfl ?_
                refine e_putI (pc' := 426) dX11_reads_423 rfl f_11_116 h_88 rfl rfl rfl ?_
                refine e_aload_n (pc' := 427) dX11_reads_426 rfl rfl ?_
                refine e_getR (pc' := 430) dX11_reads_427 rfl f_11_24 h_88 rfl ?_
                refine e_aload_n (pc' := 431) dX11_reads_430 rfl rfl ?_
                refine e_getI (pc' := 434) (v := (ss2.length : Int)) dX11_reads_431 rfl f_11_126 h_88 rfl hI2.2.2.2.2.1 ?_
                refine e_iload (pc' := 436) dX11_reads_434 rfl rfl ?_
                refine e_iast (pc' := 437) dX11_reads_436 rfl h_93 (by decide) (by omega) (by omega) ?_
                refine e_aload_n (pc' := 438) dX11_reads_437 rfl rfl ?_
                refine e_dup (pc' := 439) dX11_reads_438 rfl rfl ?_
                refine e_getI (pc' := 442) (v := (ss2.length : Int)) dX11_reads_439 rfl f_11_126 h_88 rfl hI2.2.2.2.2.1 ?_
                refine e_iconst (pc' := 443) dX11_reads_442 rfl ?_
                refine e_iadd (pc' := 444) dX11_reads_443 rfl ?_
                refine e_putI (pc' := 447) dX11_reads_444 rfl f_11_126 h_88 rfl rfl rfl ?_
                refine e_iconst (pc' := 448) dX11_reads_447 rfl ?_
                refine e_istore_n (pc' := 449) (L' := [some (rv 88), some (iv op), some (iv 1), some (iv 1), some (iv c)]) dX11_reads_448 rfl (by decide) rfl ?_
                refine e_goto (pc' := 485) dX11_reads_449 (by decide) ?_
                refine e_goto (pc' := 26) dX11_reads_485 (by decide) ?_
                have hFb : PF τ2 (upI (upI (upI τ2 88 4 ((qn : Int) + 1)) 93 (ss2.length : Int) c) 88 9 ((ss2.length : Int) + 1)) := ⟨(by repeat (first | exact Fr.rf | assumption | (refine fr_I ?_ (by decide)) | (refine fr_J ?_ (by decide)) | (refine fr_C ?_ (by decide)))), ⟨rfl, rfl, rfl, rfl⟩⟩
                have hF13 := hF2.tr hFb
                refine ih (qn + 1) op 1 vs2 (c :: ss2) (upI (upI (upI τ2 88 4 ((qn : Int) + 1)) 93 (ss2.length : Int) c) 88 9 ((ss2.length : Int) + 1)) _ (by omega) (by omega) (Or.inl ⟨rfl, hR2.1⟩) ⟨hI2.1, rfl, hI2.2.2.1, hI2.2.2.2.1, by show (ss2.length : Int) + 1 = ((c :: ss2).length : Int); rw [List.length_cons]; omega, hI2.2.2.2.2.2.1, ⟨if_pos ⟨rfl, rfl⟩, isLst_upI (σ := upI τ2 88 4 ((qn : Int) + 1)) (q := 93) (Int.le_refl _) hI2.2.2.2.2.2.2⟩⟩ (by rw [(hF13.1 89 (by decide)).1]; exact htn1) (by rw [(hF13.1 89 (by decide)).1]; exact htx1) (by rw [(hF13.1 94 (by decide)).2]; exact hN1) (hF01.tr hF13)
              · obtain ⟨x, l, hxl⟩ : ∃ x l, ss2 = x :: l := by
                  cases ss2 with
                  | nil => exact absurd (show ((([] : List Int).length : Nat) : Int) ≤ 0 by decide) (by assumption)
                  | cons x l => exact ⟨x, l, rfl⟩
                have hlx : ss2.length = l.length + 1 := by rw [hxl]; rfl
                have hx : τ2.1 93 ((ss2.length : Int) - 1) = x := by
                  rw [show ((ss2.length : Int) - 1) = (l.length : Int) by omega]
                  have q := hI2.2.2.2.2.2.2
                  rw [hxl] at q
                  exact q.1
                have hxr : 0 ≤ x ∧ x ≤ 1002 := wdM_sg hrg.1 (by rw [← hss2, hxl]; exact List.mem_cons_self)
                refine e_aload_n (pc' := 366) dX11_reads_365 rfl rfl ?_
                refine e_getR (pc' := 369) dX11_reads_366 rfl f_11_24 h_88 rfl ?_
                refine e_aload_n (pc' := 370) dX11_reads_369 rfl rfl ?_
                refine e_getI (pc' := 373) (v := (ss2.length : Int)) dX11_reads_370 rfl f_11_126 h_88 rfl hI2.2.2.2.2.1 ?_
                refine e_iconst (pc' := 374) dX11_reads_373 rfl ?_
                refine e_isub (pc' := 375) dX11_reads_374 rfl ?_
                refine e_iald (pc' := 376) (v := x) dX11_reads_375 rfl h_93 (by decide) (by omega) (by omega) hx ?_
                refine e_sipush (pc' := 379) (z := 1000) dX11_reads_376 rfl (by decide) ?_
                refine e_icmpI (pc' := 382) (t := 416) dX11_reads_379 (by decide) rfl ⟨by first | omega | (split <;> omega), by first | omega | (split <;> omega)⟩ ⟨by omega, by omega⟩ (fun (c16_10 : 1000 ≤ (x : Int)) => ?_) (fun (c16_10 : ¬ (1000 ≤ (x : Int))) => ?_)
                · have hnb : ¬ (rmS (T qn) = 3 ∧ ∃ x l, (wdM 4 ss vs).1 = x :: l ∧ x < 1000 ∧ rmS x = 3) := by
                    rintro ⟨h3, x', l', hx', hx1', hx3'⟩
                    rw [← hcq] at h3
                    rw [← hss2] at hx'
                    have hlx' : ss2.length = l'.length + 1 := by rw [hx']; rfl
                    first
                      | omega
                      | (rw [hxl] at hx'; injection hx' with q1 q2; subst q1; omega)
                  have hR2 := t_opQ hR1 (by omega) (by omega) hkk hnb
                  rw [← hss2, ← hvs2, ← hcq] at hR2
                  refine e_aload_n (pc' := 417) dX11_reads_416 rfl rfl ?_
                  refine e_dup (pc' := 418) dX11_reads_417 rfl rfl ?_
                  refine e_getI (pc' := 421) (v := (qn : Int)) dX11_reads_418 rfl f_11_116 h_88 rfl hI2.2.1 ?_
                  refine e_iconst (pc' := 422) dX11_reads_421 rfl ?_
                  refine e_iadd (pc' := 423) dX11_reads_422 rfl ?_
                  refine e_putI (pc' := 426) dX11_reads_423 rfl f_11_116 h_88 rfl rfl rfl ?_
                  refine e_aload_n (pc' := 427) dX11_reads_426 rfl rfl ?_
                  refine e_getR (pc' := 430) dX11_reads_427 rfl f_11_24 h_88 rfl ?_
                  refine e_aload_n (pc' := 431) dX11_reads_430 rfl rfl ?_
                  refine e_getI (pc' := 434) (v := (ss2.length : Int)) dX11_reads_431 rfl f_11_126 h_88 rfl hI2.2.2.2.2.1 ?_
                  refine e_iload (pc' := 436) dX11_reads_434 rfl rfl ?_
                  refine e_iast (pc' := 437) dX11_reads_436 rfl h_93 (by decide) (by omega) (by omega) ?_
                  refine e_aload_n (pc' := 438) dX11_reads_437 rfl rfl ?_
                  refine e_dup (pc' := 439) dX11_reads_438 rfl rfl ?_
                  refine e_getI (pc' := 442) (v := (ss2.length : Int)) dX11_reads_439 rfl f_11_126 h_88 rfl hI2.2.2.2.2.1 ?_
                  refine e_iconst (pc' := 443) dX11_reads_442 rfl ?_
                  refine e_iadd (pc' := 444) dX11_reads_443 rfl ?_
                  refine e_putI (pc' := 447) dX11_reads_444 rfl f_11_126 h_88 rfl rfl rfl ?_
                  refine e_iconst (pc' := 448) dX11_reads_447 rfl ?_
                  refine e_istore_n (pc' := 449) (L' := [some (rv 88), some (iv op), some (iv 1), some (iv 1), some (iv c)]) dX11_reads_448 rfl (by decide) rfl ?_
                  refine e_goto (pc' := 485) dX11_reads_449 (by decide) ?_
                  refine e_goto (pc' := 26) dX11_reads_485 (by decide) ?_
                  have hFb : PF τ2 (upI (upI (upI τ2 88 4 ((qn : Int) + 1)) 93 (ss2.length : Int) c) 88 9 ((ss2.length : Int) + 1)) := ⟨(by repeat (first | exact Fr.rf | assumption | (refine fr_I ?_ (by decide)) | (refine fr_J ?_ (by decide)) | (refine fr_C ?_ (by decide)))), ⟨rfl, rfl, rfl, rfl⟩⟩
                  have hF13 := hF2.tr hFb
                  refine ih (qn + 1) op 1 vs2 (c :: ss2) (upI (upI (upI τ2 88 4 ((qn : Int) + 1)) 93 (ss2.length : Int) c) 88 9 ((ss2.length : Int) + 1)) _ (by omega) (by omega) (Or.inl ⟨rfl, hR2.1⟩) ⟨hI2.1, rfl, hI2.2.2.1, hI2.2.2.2.1, by show (ss2.length : Int) + 1 = ((c :: ss2).length : Int); rw [List.length_cons]; omega, hI2.2.2.2.2.2.1, ⟨if_pos ⟨rfl, rfl⟩, isLst_upI (σ := upI τ2 88 4 ((qn : Int) + 1)) (q := 93) (Int.le_refl _) hI2.2.2.2.2.2.2⟩⟩ (by rw [(hF13.1 89 (by decide)).1]; exact htn1) (by rw [(hF13.1 89 (by decide)).1]; exact htx1) (by rw [(hF13.1 94 (by decide)).2]; exact hN1) (hF01.tr hF13)
                · refine e_aload_n (pc' := 383) dX11_reads_382 rfl rfl ?_
                  refine e_getR (pc' := 386) dX11_reads_383 rfl f_11_24 h_88 rfl ?_
                  refine e_aload_n (pc' := 387) dX11_reads_386 rfl rfl ?_
                  refine e_getI (pc' := 390) (v := (ss2.length : Int)) dX11_reads_387 rfl f_11_126 h_88 rfl hI2.2.2.2.2.1 ?_
                  refine e_iconst (pc' := 391) dX11_reads_390 rfl ?_
                  refine e_isub (pc' := 392) dX11_reads_391 rfl ?_
                  refine e_iald (pc' := 393) (v := x) dX11_reads_392 rfl h_93 (by decide) (by omega) (by omega) hx ?_
                  refine e_cs1i (pc' := 396) dX11_reads_393 rfl pn_11_132 k_11_132 (Nat.le_of_ble_eq_true rfl) rfl rfl ⟨rfl, rfl⟩ ⟨Nat.zero_le _, Nat.zero_le _⟩ (s_m_rank x ⟨by omega, by omega⟩) ?_
                  intro r σ' hr; rw [hr.1, hr.2]; clear hr
                  have hrkx := rmS_rg x
                  refine e_iconst (pc' := 397) dX11_reads_396 rfl ?_
                  refine e_icmpI (pc' := 400) (t := 416) dX11_reads_397 (by decide) rfl ⟨by first | omega | (split <;> omega), by first | omega | (split <;> omega)⟩ ⟨by omega, by omega⟩ (fun (c18_11 : ((rmS x) : Int) ≠ 3) => ?_) (fun (c18_11 : ¬ (((rmS x) : Int) ≠ 3)) => ?_)
                  · have hnb : ¬ (rmS (T qn) = 3 ∧ ∃ x l, (wdM 4 ss vs).1 = x :: l ∧ x < 1000 ∧ rmS x = 3) := by
                      rintro ⟨h3, x', l', hx', hx1', hx3'⟩
                      rw [← hcq] at h3
                      rw [← hss2] at hx'
                      have hlx' : ss2.length = l'.length + 1 := by rw [hx']; rfl
                      first
                        | omega
                        | (rw [hxl] at hx'; injection hx' with q1 q2; subst q1; omega)
                    have hR2 := t_opQ hR1 (by omega) (by omega) hkk hnb
                    rw [← hss2, ← hvs2, ← hcq] at hR2
                    refine e_aload_n (pc' := 417) dX11_reads_416 rfl rfl ?_
                    refine e_dup (pc' := 418) dX11_reads_417 rfl rfl ?_
                    refine e_getI (pc' := 421) (v := (qn : Int)) dX11_reads_418 rfl f_11_116 h_88 rfl hI2.2.1 ?_
                    refine e_iconst (pc' := 422) dX11_reads_421 rfl ?_
                    refine e_iadd (pc' := 423) dX11_reads_422 rfl ?_
                    refine e_putI (pc' := 426) dX11_reads_423 rfl f_11_116 h_88 rfl rfl rfl ?_
                    refine e_aload_n (pc' := 427) dX11_reads_426 rfl rfl ?_
                    refine e_getR (pc' := 430) dX11_reads_427 rfl f_11_24 h_88 rfl ?_
                    refine e_aload_n (pc' := 431) dX11_reads_430 rfl rfl ?_
                    refine e_getI (pc' := 434) (v := (ss2.length : Int)) dX11_reads_431 rfl f_11_126 h_88 rfl hI2.2.2.2.2.1 ?_
                    refine e_iload (pc' := 436) dX11_reads_434 rfl rfl ?_
                    refine e_iast (pc' := 437) dX11_reads_436 rfl h_93 (by decide) (by omega) (by omega) ?_
                    refine e_aload_n (pc' := 438) dX11_reads_437 rfl rfl ?_
                    refine e_dup (pc' := 439) dX11_reads_438 rfl rfl ?_
                    refine e_getI (pc' := 442) (v := (ss2.length : Int)) dX11_reads_439 rfl f_11_126 h_88 rfl hI2.2.2.2.2.1 ?_
                    refine e_iconst (pc' := 443) dX11_reads_442 rfl ?_
                    refine e_iadd (pc' := 444) dX11_reads_443 rfl ?_
                    refine e_putI (pc' := 447) dX11_reads_444 rfl f_11_126 h_88 rfl rfl rfl ?_
                    refine e_iconst (pc' := 448) dX11_reads_447 rfl ?_
                    refine e_istore_n (pc' := 449) (L' := [some (rv 88), some (iv op), some (iv 1), some (iv 1), some (iv c)]) dX11_reads_448 rfl (by decide) rfl ?_
                    refine e_goto (pc' := 485) dX11_reads_449 (by decide) ?_
                    refine e_goto (pc' := 26) dX11_reads_485 (by decide) ?_
                    have hFb : PF τ2 (upI (upI (upI τ2 88 4 ((qn : Int) + 1)) 93 (ss2.length : Int) c) 88 9 ((ss2.length : Int) + 1)) := ⟨(by repeat (first | exact Fr.rf | assumption | (refine fr_I ?_ (by decide)) | (refine fr_J ?_ (by decide)) | (refine fr_C ?_ (by decide)))), ⟨rfl, rfl, rfl, rfl⟩⟩
                    have hF13 := hF2.tr hFb
                    refine ih (qn + 1) op 1 vs2 (c :: ss2) (upI (upI (upI τ2 88 4 ((qn : Int) + 1)) 93 (ss2.length : Int) c) 88 9 ((ss2.length : Int) + 1)) _ (by omega) (by omega) (Or.inl ⟨rfl, hR2.1⟩) ⟨hI2.1, rfl, hI2.2.2.1, hI2.2.2.2.1, by show (ss2.length : Int) + 1 = ((c :: ss2).length : Int); rw [List.length_cons]; omega, hI2.2.2.2.2.2.1, ⟨if_pos ⟨rfl, rfl⟩, isLst_upI (σ := upI τ2 88 4 ((qn : Int) + 1)) (q := 93) (Int.le_refl _) hI2.2.2.2.2.2.2⟩⟩ (by rw [(hF13.1 89 (by decide)).1]; exact htn1) (by rw [(hF13.1 89 (by decide)).1]; exact htx1) (by rw [(hF13.1 94 (by decide)).2]; exact hN1) (hF01.tr hF13)
                  · refine e_aload_n (pc' := 401) dX11_reads_400 rfl rfl ?_
                    refine e_bipush (pc' := 403) (z := 10) dX11_reads_401 rfl (by decide) ?_
                    refine e_aload_n (pc' := 404) dX11_reads_403 rfl rfl ?_
                    refine e_getI (pc' := 407) (v := (qn : Int)) dX11_reads_404 rfl f_11_116 h_88 rfl hI2.2.1 ?_
                    refine e_imul (pc' := 408) dX11_reads_407 rfl ?_
                    refine e_iconst (pc' := 409) dX11_reads_408 rfl ?_
                    refine e_iadd (pc' := 410) dX11_reads_409 rfl ?_
                    refine e_putI (pc' := 413) dX11_reads_410 rfl f_11_142 h_88 rfl rfl rfl ?_
                    refine e_goto (pc' := 485) dX11_reads_413 (by decide) ?_
                    refine e_goto (pc' := 26) dX11_reads_485 (by decide) ?_
                    have hk4 : (if rmS (T qn) = 3 then 4 else rmS (T qn)) = (4 : Int) := by rw [← hcq]; rw [if_pos (by omega)]
                    have hfx : (fnS T n).2.2.2.2.2 = ((10 * (qn : Int)) + 1) := by
                      have q := t_opbQ (n := n) (x := x) (l := l) hR1 (by omega) (by omega) (by rw [← hcq]; omega) (by rw [← hk4, ← hkk, ← hss2]; exact hxl) (by omega) (by omega)
                      rw [q]
                    exact l_rdFQ t u n T _ vs2 ss2 qn ((10 * (qn : Int)) + 1) op 0 _ ⟨hI2.1, hI2.2.1, rfl, hI2.2.2.2.1, hI2.2.2.2.2.1, hI2.2.2.2.2.2.1, hI2.2.2.2.2.2.2⟩ hfx (by omega) ⟨by omega, by omega⟩ (hF01.tr (hF2.tr ⟨(by repeat (first | exact Fr.rf | assumption | (refine fr_I ?_ (by decide)) | (refine fr_J ?_ (by decide)) | (refine fr_C ?_ (by decide)))), ⟨rfl, rfl, rfl, rfl⟩⟩))
      · refine e_aload_n (pc' := 266) dX11_reads_265 rfl rfl ?_
        refine e_dup (pc' := 267) dX11_reads_266 rfl rfl ?_
        refine e_getI (pc' := 270) (v := (qn : Int)) dX11_reads_267 rfl f_11_116 h_88 rfl hI1.2.1 ?_
        refine e_iconst (pc' := 271) dX11_reads_270 rfl ?_
        refine e_iadd (pc' := 272) dX11_reads_271 rfl ?_
        refine e_putI (pc' := 275) dX11_reads_272 rfl f_11_116 h_88 rfl rfl rfl ?_
        refine e_iinc (pc' := 278) (L' := [some (rv 88), some (iv (op + (-1))), some (iv 0), some (iv 1), some (iv c)]) dX11_reads_275 rfl rfl (by decide) rfl ?_
        have hFb : PF τ (upI τ 88 4 ((qn : Int) + 1)) := ⟨(by repeat (first | exact Fr.rf | assumption | (refine fr_I ?_ (by decide)) | (refine fr_J ?_ (by decide)) | (refine fr_C ?_ (by decide)))), ⟨rfl, rfl, rfl, rfl⟩⟩
        have hIb : PsI (upI τ 88 4 ((qn : Int) + 1)) u vs ss ((qn : Int) + 1) (-1) := ⟨hI1.1, rfl, hI1.2.2.1, hI1.2.2.2.1, hI1.2.2.2.2.1, hI1.2.2.2.2.2.1, hI1.2.2.2.2.2.2⟩
        refine e_aload_n (pc' := 279) dX11_reads_278 rfl rfl ?_
        refine e_iconst (pc' := 280) dX11_reads_279 rfl ?_
        refine e_cv1v (pc' := 283) dX11_reads_280 rfl k_11_161 h_88 rfl (Nat.le_of_ble_eq_true rfl) rfl rfl ⟨rfl, rfl⟩ ⟨Nat.zero_le _, Nat.zero_le _⟩ (s_m_workDown u ((qn : Int) + 1) (-1) 1 ⟨by decide, by decide⟩ ss vs _ hIb hrg.1 hrg.2.2.2.1 (by omega) (by omega)) ?_
        rintro τ2 ⟨hI2, hF2⟩
        obtain ⟨ss2, v2, vs2, hwd, hR2, hsg2, hsl2, hvl2⟩ := t_clsQ hR1 (by omega) (by rw [← hcq]; omega) (by omega)
        rw [hwd] at hI2
        have hl2 : (1000 :: ss2).length = ss2.length + 1 := rfl
        have hv2 : (v2 :: vs2).length = vs2.length + 1 := rfl
        have hvx : τ2.2 92 (((v2 :: vs2).length : Int) - 1) = v2 := by
          rw [show (((v2 :: vs2).length : Int) - 1) = (vs2.length : Int) by omega]
          exact hI2.2.2.2.2.2.1.1
        refine e_aload_n (pc' := 284) dX11_reads_283 rfl rfl ?_
        refine e_dup (pc' := 285) dX11_reads_284 rfl rfl ?_
        refine e_getI (pc' := 288) (v := ((1000 :: ss2).length : Int)) dX11_reads_285 rfl f_11_126 h_88 rfl hI2.2.2.2.2.1 ?_
        refine e_iconst (pc' := 289) dX11_reads_288 rfl ?_
        refine e_isub (pc' := 290) dX11_reads_289 rfl ?_
        refine e_putI (pc' := 293) dX11_reads_290 rfl f_11_126 h_88 rfl rfl rfl ?_
        refine e_aload_n (pc' := 294) dX11_reads_293 rfl rfl ?_
        refine e_dup (pc' := 295) dX11_reads_294 rfl rfl ?_
        refine e_getI (pc' := 298) (v := ((v2 :: vs2).length : Int)) dX11_reads_295 rfl f_11_129 h_88 rfl hI2.2.2.2.1 ?_
        refine e_iconst (pc' := 299) dX11_reads_298 rfl ?_
        refine e_isub (pc' := 300) dX11_reads_299 rfl ?_
        refine e_putI (pc' := 303) dX11_reads_300 rfl f_11_129 h_88 rfl rfl rfl ?_
        have hI3 : PsI (upI (upI τ2 88 9 (((1000 :: ss2).length : Int) - 1)) 88 7 (((v2 :: vs2).length : Int) - 1)) u vs2 ss2 ((qn : Int) + 1) (-1) := ⟨hI2.1, hI2.2.1, hI2.2.2.1, by show ((v2 :: vs2).length : Int) - 1 = (vs2.length : Int); omega, by show ((1000 :: ss2).length : Int) - 1 = (ss2.length : Int); omega, hI2.2.2.2.2.2.1.2, hI2.2.2.2.2.2.2.2⟩
        have hF3 : PF τ2 (upI (upI τ2 88 9 (((1000 :: ss2).length : Int) - 1)) 88 7 (((v2 :: vs2).length : Int) - 1)) := ⟨(by repeat (first | exact Fr.rf | assumption | (refine fr_I ?_ (by decide)) | (refine fr_J ?_ (by decide)) | (refine fr_C ?_ (by decide)))), ⟨rfl, rfl, rfl, rfl⟩⟩
        refine e_aload_n (pc' := 304) dX11_reads_303 rfl rfl ?_
        refine e_aload_n (pc' := 305) dX11_reads_304 rfl rfl ?_
        refine e_getR (pc' := 308) dX11_reads_305 rfl f_11_20 h_88 rfl ?_
        refine e_aload_n (pc' := 309) dX11_reads_308 rfl rfl ?_
        refine e_getI (pc' := 312) (v := (((v2 :: vs2).length : Int) - 1)) dX11_reads_309 rfl f_11_129 h_88 rfl rfl ?_
        refine e_lald (pc' := 313) (v := v2) dX11_reads_312 rfl h_92 (by decide) (by omega) (by omega) hvx ?_
        refine e_cv1v (pc' := 316) dX11_reads_313 rfl k_11_154 h_88 rfl (Nat.le_of_ble_eq_true rfl) rfl rfl ⟨rfl, rfl⟩ ⟨Nat.zero_le _, Nat.zero_le _⟩ (s_m_stands u ((qn : Int) + 1) (-1) v2 vs2 ss2 hI3 hsg2 (by omega) (by omega)) ?_
        rintro τ3 ⟨hI4, hF4⟩
        refine e_goto (pc' := 485) dX11_reads_316 (by decide) ?_
        refine e_goto (pc' := 26) dX11_reads_485 (by decide) ?_
        have hF14 := ((hFb.tr hF2).tr hF3).tr hF4
        refine ih (qn + 1) (op + (-1)) 0 _ _ τ3 _ (by omega) (by omega) (Or.inr ⟨rfl, hR2⟩) hI4 (by rw [(hF14.1 89 (by decide)).1]; exact htn1) (by rw [(hF14.1 89 (by decide)).1]; exact htx1) (by rw [(hF14.1 94 (by decide)).2]; exact hN1) (hF01.tr hF14)

set_option maxHeartbeats 4000000 in
set_option maxRecDepth 100000 in
theorem s_m_readsQ {X : AX} {d : Nat} {σ0 : SG} (t : Int → Int64) (u : Int) (n : Nat) (T : Int → Int) (hu : 0 ≤ u ∧ u ≤ 2) (hn : n ≤ 40) (h3 : σ0.1 88 3 = u) (htn : σ0.1 89 (57 + 41 * u) = n) (htx : ∀ k, 0 ≤ k → k < (n : Int) → σ0.1 89 (57 + 41 * u + 1 + k) = T k ∧ chr7 (T k)) (hN : ∀ i, 0 ≤ i → i < 5 → σ0.2 94 i = t i) : Ev X 0 0 (d + 4) mX11_reads 0 [some (rv 88), none, none, none, none] [] σ0 (QI (fun r σ' => σ'.1 88 5 = (fnS T n).2.2.2.2.2 ∧ r = (if (fnS T n).2.2.2.2.2 = -1 then 1 else 0) ∧ ((fnS T n).2.2.2.2.2 = -1 → σ'.2 88 11 = popV (evQ t (fnS T n).1)) ∧ σ'.1 88 3 = u ∧ PF σ0 σ')) := by
  refine e_aload_n (pc' := 1) dX11_reads_0 rfl rfl ?_
  refine e_iconst (pc' := 2) dX11_reads_1 rfl ?_
  refine e_putI (pc' := 5) dX11_reads_2 rfl f_11_116 h_88 rfl rfl rfl ?_
  refine e_aload_n (pc' := 6) dX11_reads_5 rfl rfl ?_
  refine e_iconst (pc' := 7) dX11_reads_6 rfl ?_
  refine e_putI (pc' := 10) dX11_reads_7 rfl f_11_142 h_88 rfl rfl rfl ?_
  refine e_aload_n (pc' := 11) dX11_reads_10 rfl rfl ?_
  refine e_iconst (pc' := 12) dX11_reads_11 rfl ?_
  refine e_putI (pc' := 15) dX11_reads_12 rfl f_11_129 h_88 rfl rfl rfl ?_
  refine e_aload_n (pc' := 16) dX11_reads_15 rfl rfl ?_
  refine e_iconst (pc' := 17) dX11_reads_16 rfl ?_
  refine e_putI (pc' := 20) dX11_reads_17 rfl f_11_126 h_88 rfl rfl rfl ?_
  refine e_iconst (pc' := 21) dX11_reads_20 rfl ?_
  refine e_istore_n (pc' := 22) (L' := [some (rv 88), some (iv 0), none, none, none]) dX11_reads_21 rfl (by decide) rfl ?_
  refine e_iconst (pc' := 23) dX11_reads_22 rfl ?_
  refine e_istore_n (pc' := 24) (L' := [some (rv 88), some (iv 0), some (iv 1), none, none]) dX11_reads_23 rfl (by decide) rfl ?_
  refine e_iconst (pc' := 25) dX11_reads_24 rfl ?_
  refine e_istore_n (pc' := 26) (L' := [some (rv 88), some (iv 0), some (iv 1), some (iv 1), none]) dX11_reads_25 rfl (by decide) rfl ?_
  exact l_readsQ t u n T hu hn (n + 1) 0 0 1 [] [] _ _ (by omega) (by omega) (Or.inl ⟨rfl, [], [], rfl, trivial, Nat.le_refl _, rfl, rfl, rfl, rfl⟩) ⟨h3, rfl, rfl, rfl, rfl, trivial, trivial⟩ htn htx hN ⟨(by repeat (first | exact Fr.rf | assumption | (refine fr_I ?_ (by decide)) | (refine fr_J ?_ (by decide)) | (refine fr_C ?_ (by decide)))), ⟨rfl, rfl, rfl, rfl⟩⟩

