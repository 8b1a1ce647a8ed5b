abbrev BR : Type := Int × Int × Int × Int
def updB (t : BR) (v a b c : Int) : BR := if t.1 < v then (v, a, b, c) else t
def rowW (a b c w : Int) : Int := if w = 0 then a else if w = 1 then b else c
/-- a row's worth to a giver, by the others' gifts and what the rule would add by each of his -/
def wvS (σ : SG) (s : Nat) (ot wb : Int → Int) (g a b c : Int) : Int := hvO σ s (fun w => (ot w + rowW a b c w) + adS (σ.1 s 11) (σ.1 s 10) (fun w => wb (w * 13 + rowW a b c w)) w) (σ.1 (s + 1) g - a - b - c) g
def brOf (σ : SG) : BR := (σ.1 43 4, σ.1 46 0, σ.1 46 1, σ.1 46 2)
theorem hvO_cg {σ τ : SG} {b : Nat} {a a' : Int → Int} (e : SameSc σ τ b) (h0 : a 0 = a' 0) (h1 : a 1 = a' 1) (h2 : a 2 = a' 2) (kt g : Int) : hvO τ b a kt g = hvO σ b a' kt g := by
  unfold hvO hvS
  rw [e b (by omega) (by omega), e (b + 2) (by omega) (by omega), e (b + 3) (by omega) (by omega), e (b + 4) (by omega) (by omega), h0, h1, h2]
theorem shS_rg {p all u : Int} (h : 0 ≤ u ∧ u ≤ 99) (hp : 0 ≤ p ∧ p ≤ 200) : 0 ≤ shS p all u ∧ shS p all u ≤ 19800 := by
  unfold shS
  have := mulb h.1 h.2 hp.1 hp.2
  split
  · next ha => exact ⟨Int.ediv_nonneg this.1 (by omega), Int.le_trans (Int.ediv_le_self _ this.1) this.2⟩
  · decide
theorem shS_le {p all u : Int} (h : 0 ≤ u ∧ u ≤ 99) (hp : 0 ≤ p) (ha : p ≤ all) : shS p all u ≤ 99 := by
  unfold shS
  split
  · next h0 =>
    have h1 : u * p ≤ u * all := Int.mul_le_mul_of_nonneg_left ha h.1
    have h2 : u * p / all ≤ u * all / all := Int.ediv_le_ediv h0 h1
    rw [Int.mul_ediv_cancel _ (by omega)] at h2
    omega
  · decide
theorem adS_rg {md p : Int} {u : Int → Int} (hp : 0 ≤ p ∧ p ≤ 200) (h : ∀ w, 0 ≤ w → w < 3 → 0 ≤ u w ∧ u w ≤ 99) : ∀ w, 0 ≤ w → w < 3 → 0 ≤ adS md p u w ∧ adS md p u w ≤ 99 := by
  intro w h0 h3
  have hw := h w h0 h3
  have w0 := h 0 (by decide) (by decide)
  have w1 := h 1 (by decide) (by decide)
  have w2 := h 2 (by decide) (by decide)
  unfold adS
  split
  · exact hw
  · next hs =>
    split
    · exact ⟨(shS_rg hw hp).1, shS_le hw hp.1 (by omega)⟩
    · split
      · split
        · constructor <;> omega
        · split <;> constructor <;> omega
      · have hb := bN_ok hp.1 hp.2 w0.1 w1.1 w2.1 3
        constructor <;> omega

set_option maxHeartbeats 4000000 in
set_option maxRecDepth 100000 in
theorem s_enter {X : AX} {d : Nat} {σ : SG} (w x : Int) (hw : 0 ≤ w ∧ w < 3) (hx : 0 ≤ x ∧ x ≤ 12) : Ev X 0 0 d mX0_enter 0 [some (rv 43), some (iv w), some (iv x)] [] σ (QV (fun σ' => σ' = upI (upI σ 40 w (σ.1 45 w + x)) 41 w (σ.1 44 (w * 13 + x)))) := by
  refine e_aload_n (pc' := 1) dX0_enter_0 rfl rfl ?_
  refine e_getR (pc' := 4) dX0_enter_1 rfl f_0_21 h_43 rfl ?_
  refine e_getR (pc' := 7) dX0_enter_4 rfl f_0_62 h_39 rfl ?_
  refine e_iload_n (pc' := 8) dX0_enter_7 rfl rfl ?_
  refine e_aload_n (pc' := 9) dX0_enter_8 rfl rfl ?_
  refine e_getR (pc' := 12) dX0_enter_9 rfl f_0_15 h_43 rfl ?_
  refine e_iload_n (pc' := 13) dX0_enter_12 rfl rfl ?_
  refine e_iald (pc' := 14) (v := (σ.1 45 w)) dX0_enter_13 rfl h_45 (by decide) (by omega) (by omega) rfl ?_
  refine e_iload_n (pc' := 15) dX0_enter_14 rfl rfl ?_
  refine e_iadd (pc' := 16) dX0_enter_15 rfl ?_
  refine e_iast (pc' := 17) dX0_enter_16 rfl h_40 (by decide) (by omega) (by omega) ?_
  refine e_aload_n (pc' := 18) dX0_enter_17 rfl rfl ?_
  refine e_getR (pc' := 21) dX0_enter_18 rfl f_0_21 h_43 rfl ?_
  refine e_getR (pc' := 24) dX0_enter_21 rfl f_0_100 h_39 rfl ?_
  refine e_iload_n (pc' := 25) dX0_enter_24 rfl rfl ?_
  refine e_aload_n (pc' := 26) dX0_enter_25 rfl rfl ?_
  refine e_getR (pc' := 29) dX0_enter_26 rfl f_0_9 h_43 rfl ?_
  refine e_iload_n (pc' := 30) dX0_enter_29 rfl rfl ?_
  refine e_bipush (pc' := 32) (z := 13) dX0_enter_30 rfl (by decide) ?_
  refine e_imul (pc' := 33) dX0_enter_32 rfl ?_
  refine e_iload_n (pc' := 34) dX0_enter_33 rfl rfl ?_
  refine e_iadd (pc' := 35) dX0_enter_34 rfl ?_
  refine e_iald (pc' := 36) (v := (σ.1 44 ((w * 13) + x))) dX0_enter_35 rfl h_44 (by decide) (by omega) (by omega) rfl ?_
  refine e_iast (pc' := 37) dX0_enter_36 rfl h_41 (by decide) (by omega) (by omega) ?_
  exact e_vret dX0_enter_37 rfl ⟨rfl, Nat.le_refl _⟩ ⟨rfl, rfl⟩

theorem sameScW_1 {σ τ : SG} (h : Fr [39, 40, 41, 42, 43, 46] σ τ) : SameSc σ τ 1 := fun k h1 h2 => (h k (by simp only [List.mem_cons, List.not_mem_nil, or_false]; omega)).1

set_option maxHeartbeats 4000000 in
set_option maxRecDepth 100000 in
theorem s_weigh_1 {X : AX} {d : Nat} {σ : SG} (ho : ScOK σ 1) (hot : ∀ w, 0 ≤ w → w < 3 → 0 ≤ σ.1 45 w ∧ σ.1 45 w ≤ 100) (g x y z : Int) (hw0 : 0 ≤ σ.1 44 (0 * 13 + x) ∧ σ.1 44 (0 * 13 + x) ≤ 99) (hw1 : 0 ≤ σ.1 44 (1 * 13 + y) ∧ σ.1 44 (1 * 13 + y) ≤ 99) (hw2 : 0 ≤ σ.1 44 (2 * 13 + z) ∧ σ.1 44 (2 * 13 + z) ≤ 99) (hg : 0 ≤ g ∧ g < 5) (hx : 0 ≤ x ∧ x ≤ 12) (hy : 0 ≤ y ∧ y ≤ 12) (hz : 0 ≤ z ∧ z ≤ 12) (hm : rg (σ.1 43 4)) (hV : rg (wvS σ 1 (σ.1 45) (σ.1 44) g x y z)) : Ev X 0 0 (d + 3) mX0_weigh 0 [some (rv 43), some (rv 1), some (iv g), some (iv x), some (iv y), some (iv z), none] [] σ (QV (fun σ' => brOf σ' = updB (brOf σ) (wvS σ 1 (σ.1 45) (σ.1 44) g x y z) x y z ∧ σ'.1 43 5 = σ.1 43 5 ∧ Fr [39, 40, 41, 42, 43, 46] σ σ')) := by
  refine e_aload_n (pc' := 1) dX0_weigh_0 rfl rfl ?_
  refine e_iconst (pc' := 2) dX0_weigh_1 rfl ?_
  refine e_iload_n (pc' := 3) dX0_weigh_2 rfl rfl ?_
  refine e_cv2v (pc' := 6) dX0_weigh_3 rfl k_0_93 h_43 rfl (Nat.le_of_ble_eq_true rfl) rfl rfl ⟨rfl, rfl⟩ ⟨Nat.zero_le _, Nat.zero_le _⟩ (s_enter 0 x (by decide) ⟨by omega, by omega⟩) ?_
  intro σ' h; rw [h]; clear h σ'
  show Ev _ _ _ _ _ _ _ _ (upI (upI σ 40 0 ((σ.1 45 0) + x)) 41 0 (σ.1 44 (0 * 13 + x))) _
  refine e_aload_n (pc' := 7) dX0_weigh_6 rfl rfl ?_
  refine e_iconst (pc' := 8) dX0_weigh_7 rfl ?_
  refine e_iload (pc' := 10) dX0_weigh_8 rfl rfl ?_
  refine e_cv2v (pc' := 13) dX0_weigh_10 rfl k_0_93 h_43 rfl (Nat.le_of_ble_eq_true rfl) rfl rfl ⟨rfl, rfl⟩ ⟨Nat.zero_le _, Nat.zero_le _⟩ (s_enter 1 y (by decide) ⟨by omega, by omega⟩) ?_
  intro σ' h; rw [h]; clear h σ'
  show Ev _ _ _ _ _ _ _ _ (upI (upI (upI (upI σ 40 0 ((σ.1 45 0) + x)) 41 0 (σ.1 44 (0 * 13 + x))) 40 1 ((σ.1 45 1) + y)) 41 1 (σ.1 44 (1 * 13 + y))) _
  refine e_aload_n (pc' := 14) dX0_weigh_13 rfl rfl ?_
  refine e_iconst (pc' := 15) dX0_weigh_14 rfl ?_
  refine e_iload (pc' := 17) dX0_weigh_15 rfl rfl ?_
  refine e_cv2v (pc' := 20) dX0_weigh_17 rfl k_0_93 h_43 rfl (Nat.le_of_ble_eq_true rfl) rfl rfl ⟨rfl, rfl⟩ ⟨Nat.zero_le _, Nat.zero_le _⟩ (s_enter 2 z (by decide) ⟨by omega, by omega⟩) ?_
  intro σ' h; rw [h]; clear h σ'
  show Ev _ _ _ _ _ _ _ _ (upI (upI (upI (upI (upI (upI σ 40 0 ((σ.1 45 0) + x)) 41 0 (σ.1 44 (0 * 13 + x))) 40 1 ((σ.1 45 1) + y)) 41 1 (σ.1 44 (1 * 13 + y))) 40 2 ((σ.1 45 2) + z)) 41 2 (σ.1 44 (2 * 13 + z))) _
  refine e_aload_n (pc' := 21) dX0_weigh_20 rfl rfl ?_
  refine e_getR (pc' := 24) dX0_weigh_21 rfl f_0_21 h_43 rfl ?_
  refine e_aload_n (pc' := 25) dX0_weigh_24 rfl rfl ?_
  refine e_cv1v (pc' := 28) dX0_weigh_25 rfl k_0_97 h_39 rfl (Nat.le_of_ble_eq_true rfl) rfl rfl ⟨rfl, rfl⟩ ⟨Nat.zero_le _, Nat.zero_le _⟩ (s_partPurse_1 (σ := (upI (upI (upI (upI (upI (upI σ 40 0 ((σ.1 45 0) + x)) 41 0 (σ.1 44 (0 * 13 + x))) 40 1 ((σ.1 45 1) + y)) 41 1 (σ.1 44 (1 * 13 + y))) 40 2 ((σ.1 45 2) + z)) 41 2 (σ.1 44 (2 * 13 + z)))) hw0 hw1 hw2 ho.2.2.2.2.1 ho.2.2.2.2.2.1) ?_
  rintro τ ⟨h3, h4, hG⟩
  have hF0 : Fr [39, 40, 41, 42, 43, 46] σ (upI (upI (upI (upI (upI (upI σ 40 0 ((σ.1 45 0) + x)) 41 0 (σ.1 44 (0 * 13 + x))) 40 1 ((σ.1 45 1) + y)) 41 1 (σ.1 44 (1 * 13 + y))) 40 2 ((σ.1 45 2) + z)) 41 2 (σ.1 44 (2 * 13 + z))) := (by repeat (first | exact Fr.rf | (refine fr_I ?_ (by decide)) | (refine fr_J ?_ (by decide)) | (refine fr_C ?_ (by decide))))
  have hF : Fr [39, 40, 41, 42, 43, 46] σ τ := hF0.tr (hG.mono (by decide))
  have hoτ : ScOK τ 1 := ho.cg (sameScW_1 hF)
  have ea := adS_cg (md := σ.1 1 11) (p := σ.1 1 10) (u := ((upI (upI (upI (upI (upI (upI σ 40 0 ((σ.1 45 0) + x)) 41 0 (σ.1 44 (0 * 13 + x))) 40 1 ((σ.1 45 1) + y)) 41 1 (σ.1 44 (1 * 13 + y))) 40 2 ((σ.1 45 2) + z)) 41 2 (σ.1 44 (2 * 13 + z)))).1 41) (v := (fun w => σ.1 44 (w * 13 + rowW x y z w))) rfl rfl rfl
  have er := adS_rg (md := σ.1 1 11) (p := σ.1 1 10) (u := (fun w => σ.1 44 (w * 13 + rowW x y z w))) ho.2.2.2.2.1 (three_of hw0 hw1 hw2)
  have k0 : τ.1 42 0 = adS (σ.1 1 11) (σ.1 1 10) (fun w => σ.1 44 (w * 13 + rowW x y z w)) 0 := h3.1.trans (ea 0 (by decide) (by decide))
  have k1 : τ.1 42 1 = adS (σ.1 1 11) (σ.1 1 10) (fun w => σ.1 44 (w * 13 + rowW x y z w)) 1 := h3.2.1.trans (ea 1 (by decide) (by decide))
  have k2 : τ.1 42 2 = adS (σ.1 1 11) (σ.1 1 10) (fun w => σ.1 44 (w * 13 + rowW x y z w)) 2 := h3.2.2.trans (ea 2 (by decide) (by decide))
  have j0 : τ.1 40 0 = σ.1 45 0 + x := (congrFun (hG 40 (by decide)).1 0).trans rfl
  have j1 : τ.1 40 1 = σ.1 45 1 + y := (congrFun (hG 40 (by decide)).1 1).trans rfl
  have j2 : τ.1 40 2 = σ.1 45 2 + z := (congrFun (hG 40 (by decide)).1 2).trans rfl
  have o0 := hot 0 (by decide) (by decide)
  have o1 := hot 1 (by decide) (by decide)
  have o2 := hot 2 (by decide) (by decide)
  have r0 := er 0 (by decide) (by decide)
  have r1 := er 1 (by decide) (by decide)
  have r2 := er 2 (by decide) (by decide)
  have hq : ∀ w, 0 ≤ w → w < 3 → 0 ≤ τ.1 40 w + τ.1 42 w ∧ τ.1 40 w + τ.1 42 w ≤ 2000 := three_of (by rw [j0, k0]; omega) (by rw [j1, k1]; omega) (by rw [j2, k2]; omega)
  refine e_aload_n (pc' := 29) dX0_weigh_28 rfl rfl ?_
  refine e_getR (pc' := 32) dX0_weigh_29 rfl f_0_21 h_43 rfl ?_
  refine e_aload_n (pc' := 33) dX0_weigh_32 rfl rfl ?_
  refine e_iload_n (pc' := 34) dX0_weigh_33 rfl rfl ?_
  refine e_aload_n (pc' := 35) dX0_weigh_34 rfl rfl ?_
  refine e_getR (pc' := 38) dX0_weigh_35 rfl f_0_52 h_1 rfl ?_
  refine e_iload_n (pc' := 39) dX0_weigh_38 rfl rfl ?_
  refine e_iald (pc' := 40) (v := (σ.1 2 g)) dX0_weigh_39 rfl h_2 (by decide) (by omega) (by omega) ((congrFun (hG 2 (by decide)).1 g).trans rfl) ?_
  refine e_iload_n (pc' := 41) dX0_weigh_40 rfl rfl ?_
  refine e_isub (pc' := 42) dX0_weigh_41 rfl ?_
  refine e_iload (pc' := 44) dX0_weigh_42 rfl rfl ?_
  refine e_isub (pc' := 45) dX0_weigh_44 rfl ?_
  refine e_iload (pc' := 47) dX0_weigh_45 rfl rfl ?_
  refine e_isub (pc' := 48) dX0_weigh_47 rfl ?_
  refine e_cv3i (pc' := 51) dX0_weigh_48 rfl k_0_37 h_39 rfl (Nat.le_of_ble_eq_true rfl) rfl rfl ⟨rfl, rfl⟩ ⟨Nat.zero_le _, Nat.zero_le _⟩ (s_haveOf_1 hoτ hq g ((((σ.1 2 g) - x) - y) - z) hg) ?_
  intro r σ' hr; rw [hr.1, hr.2]; clear hr σ'
  rw [show hvO τ 1 (fun w => τ.1 40 w + τ.1 42 w) ((((σ.1 2 g) - x) - y) - z) g = (wvS σ 1 (σ.1 45) (σ.1 44) g x y z) from hvO_cg (sameScW_1 hF) (by show τ.1 40 0 + τ.1 42 0 = _; rw [j0, k0]; rfl) (by show τ.1 40 1 + τ.1 42 1 = _; rw [j1, k1]; rfl) (by show τ.1 40 2 + τ.1 42 2 = _; rw [j2, k2]; rfl) _ _]
  refine e_istore (pc' := 53) (L' := [some (rv 43), some (rv 1), some (iv g), some (iv x), some (iv y), some (iv z), some (iv (wvS σ 1 (σ.1 45) (σ.1 44) g x y z))]) dX0_weigh_51 rfl (by decide) rfl ?_
  refine e_iload (pc' := 55) dX0_weigh_53 rfl rfl ?_
  refine e_aload_n (pc' := 56) dX0_weigh_55 rfl rfl ?_
  refine e_getI (pc' := 59) (v := (σ.1 43 4)) dX0_weigh_56 rfl f_0_49 h_43 rfl ((congrFun (hG 43 (by decide)).1 4).trans rfl) ?_
  refine e_icmpI (pc' := 62) (t := 91) dX0_weigh_59 (by decide) rfl (by first | assumption | exact ⟨by omega, by omega⟩) (by first | assumption | exact ⟨by omega, by omega⟩) (fun (c2_1 : ((wvS σ 1 (σ.1 45) (σ.1 44) g x y z) : Int) ≤ (σ.1 43 4)) => ?_) (fun (c2_1 : ¬ (((wvS σ 1 (σ.1 45) (σ.1 44) g x y z) : Int) ≤ (σ.1 43 4))) => ?_)
  · exact e_vret dX0_weigh_91 rfl ⟨rfl, Nat.le_refl _⟩ ⟨rfl, by unfold updB; rw [if_neg (show ¬ (brOf σ).1 < (wvS σ 1 (σ.1 45) (σ.1 44) g x y z) from (show ¬ σ.1 43 4 < (wvS σ 1 (σ.1 45) (σ.1 44) g x y z) by omega))]; unfold brOf; rw [(hG 43 (by decide)).1, (hG 46 (by decide)).1]; rfl, (congrFun (hG 43 (by decide)).1 5).trans rfl, hF⟩
  · refine e_aload_n (pc' := 63) dX0_weigh_62 rfl rfl ?_
    refine e_iload (pc' := 65) dX0_weigh_63 rfl rfl ?_
    refine e_putI (pc' := 68) dX0_weigh_65 rfl f_0_49 h_43 rfl rfl rfl ?_
    refine e_aload_n (pc' := 69) dX0_weigh_68 rfl rfl ?_
    refine e_getR (pc' := 72) dX0_weigh_69 rfl f_0_18 h_43 rfl ?_
    refine e_iconst (pc' := 73) dX0_weigh_72 rfl ?_
    refine e_iload_n (pc' := 74) dX0_weigh_73 rfl rfl ?_
    refine e_iast (pc' := 75) dX0_weigh_74 rfl h_46 (by decide) (by omega) (by omega) ?_
    refine e_aload_n (pc' := 76) dX0_weigh_75 rfl rfl ?_
    refine e_getR (pc' := 79) dX0_weigh_76 rfl f_0_18 h_43 rfl ?_
    refine e_iconst (pc' := 80) dX0_weigh_79 rfl ?_
    refine e_iload (pc' := 82) dX0_weigh_80 rfl rfl ?_
    refine e_iast (pc' := 83) dX0_weigh_82 rfl h_46 (by decide) (by omega) (by omega) ?_
    refine e_aload_n (pc' := 84) dX0_weigh_83 rfl rfl ?_
    refine e_getR (pc' := 87) dX0_weigh_84 rfl f_0_18 h_43 rfl ?_
    refine e_iconst (pc' := 88) dX0_weigh_87 rfl ?_
    refine e_iload (pc' := 90) dX0_weigh_88 rfl rfl ?_
    refine e_iast (pc' := 91) dX0_weigh_90 rfl h_46 (by decide) (by omega) (by omega) ?_
    exact e_vret dX0_weigh_91 rfl ⟨rfl, Nat.le_refl _⟩ ⟨rfl, by unfold updB; rw [if_pos (show (brOf σ).1 < (wvS σ 1 (σ.1 45) (σ.1 44) g x y z) from (show σ.1 43 4 < (wvS σ 1 (σ.1 45) (σ.1 44) g x y z) by omega))]; rfl, (congrFun (hG 43 (by decide)).1 5).trans rfl, by repeat (first | exact hF | (refine fr_I ?_ (by decide)))⟩

theorem sameScW_17 {σ τ : SG} (h : Fr [39, 40, 41, 42, 43, 46] σ τ) : SameSc σ τ 17 := fun k h1 h2 => (h k (by simp only [List.mem_cons, List.not_mem_nil, or_false]; omega)).1

set_option maxHeartbeats 4000000 in
set_option maxRecDepth 100000 in
theorem s_weigh_17 {X : AX} {d : Nat} {σ : SG} (ho : ScOK σ 17) (hot : ∀ w, 0 ≤ w → w < 3 → 0 ≤ σ.1 45 w ∧ σ.1 45 w ≤ 100) (g x y z : Int) (hw0 : 0 ≤ σ.1 44 (0 * 13 + x) ∧ σ.1 44 (0 * 13 + x) ≤ 99) (hw1 : 0 ≤ σ.1 44 (1 * 13 + y) ∧ σ.1 44 (1 * 13 + y) ≤ 99) (hw2 : 0 ≤ σ.1 44 (2 * 13 + z) ∧ σ.1 44 (2 * 13 + z) ≤ 99) (hg : 0 ≤ g ∧ g < 5) (hx : 0 ≤ x ∧ x ≤ 12) (hy : 0 ≤ y ∧ y ≤ 12) (hz : 0 ≤ z ∧ z ≤ 12) (hm : rg (σ.1 43 4)) (hV : rg (wvS σ 17 (σ.1 45) (σ.1 44) g x y z)) : Ev X 0 0 (d + 3) mX0_weigh 0 [some (rv 43), some (rv 17), some (iv g), some (iv x), some (iv y), some (iv z), none] [] σ (QV (fun σ' => brOf σ' = updB (brOf σ) (wvS σ 17 (σ.1 45) (σ.1 44) g x y z) x y z ∧ σ'.1 43 5 = σ.1 43 5 ∧ Fr [39, 40, 41, 42, 43, 46] σ σ')) := by
  refine e_aload_n (pc' := 1) dX0_weigh_0 rfl rfl ?_
  refine e_iconst (pc' := 2) dX0_weigh_1 rfl ?_
  refine e_iload_n (pc' := 3) dX0_weigh_2 rfl rfl ?_
  refine e_cv2v (pc' := 6) dX0_weigh_3 rfl k_0_93 h_43 rfl (Nat.le_of_ble_eq_true rfl) rfl rfl ⟨rfl, rfl⟩ ⟨Nat.zero_le _, Nat.zero_le _⟩ (s_enter 0 x (by decide) ⟨by omega, by omega⟩) ?_
  intro σ' h; rw [h]; clear h σ'
  show Ev _ _ _ _ _ _ _ _ (upI (upI σ 40 0 ((σ.1 45 0) + x)) 41 0 (σ.1 44 (0 * 13 + x))) _
  refine e_aload_n (pc' := 7) dX0_weigh_6 rfl rfl ?_
  refine e_iconst (pc' := 8) dX0_weigh_7 rfl ?_
  refine e_iload (pc' := 10) dX0_weigh_8 rfl rfl ?_
  refine e_cv2v (pc' := 13) dX0_weigh_10 rfl k_0_93 h_43 rfl (Nat.le_of_ble_eq_true rfl) rfl rfl ⟨rfl, rfl⟩ ⟨Nat.zero_le _, Nat.zero_le _⟩ (s_enter 1 y (by decide) ⟨by omega, by omega⟩) ?_
  intro σ' h; rw [h]; clear h σ'
  show Ev _ _ _ _ _ _ _ _ (upI (upI (upI (upI σ 40 0 ((σ.1 45 0) + x)) 41 0 (σ.1 44 (0 * 13 + x))) 40 1 ((σ.1 45 1) + y)) 41 1 (σ.1 44 (1 * 13 + y))) _
  refine e_aload_n (pc' := 14) dX0_weigh_13 rfl rfl ?_
  refine e_iconst (pc' := 15) dX0_weigh_14 rfl ?_
  refine e_iload (pc' := 17) dX0_weigh_15 rfl rfl ?_
  refine e_cv2v (pc' := 20) dX0_weigh_17 rfl k_0_93 h_43 rfl (Nat.le_of_ble_eq_true rfl) rfl rfl ⟨rfl, rfl⟩ ⟨Nat.zero_le _, Nat.zero_le _⟩ (s_enter 2 z (by decide) ⟨by omega, by omega⟩) ?_
  intro σ' h; rw [h]; clear h σ'
  show Ev _ _ _ _ _ _ _ _ (upI (upI (upI (upI (upI (upI σ 40 0 ((σ.1 45 0) + x)) 41 0 (σ.1 44 (0 * 13 + x))) 40 1 ((σ.1 45 1) + y)) 41 1 (σ.1 44 (1 * 13 + y))) 40 2 ((σ.1 45 2) + z)) 41 2 (σ.1 44 (2 * 13 + z))) _
  refine e_aload_n (pc' := 21) dX0_weigh_20 rfl rfl ?_
  refine e_getR (pc' := 24) dX0_weigh_21 rfl f_0_21 h_43 rfl ?_
  refine e_aload_n (pc' := 25) dX0_weigh_24 rfl rfl ?_
  refine e_cv1v (pc' := 28) dX0_weigh_25 rfl k_0_97 h_39 rfl (Nat.le_of_ble_eq_true rfl) rfl rfl ⟨rfl, rfl⟩ ⟨Nat.zero_le _, Nat.zero_le _⟩ (s_partPurse_17 (σ := (upI (upI (upI (upI (upI (upI σ 40 0 ((σ.1 45 0) + x)) 41 0 (σ.1 44 (0 * 13 + x))) 40 1 ((σ.1 45 1) + y)) 41 1 (σ.1 44 (1 * 13 + y))) 40 2 ((σ.1 45 2) + z)) 41 2 (σ.1 44 (2 * 13 + z)))) hw0 hw1 hw2 ho.2.2.2.2.1 ho.2.2.2.2.2.1) ?_
  rintro τ ⟨h3, h4, hG⟩
  have hF0 : Fr [39, 40, 41, 42, 43, 46] σ (upI (upI (upI (upI (upI (upI σ 40 0 ((σ.1 45 0) + x)) 41 0 (σ.1 44 (0 * 13 + x))) 40 1 ((σ.1 45 1) + y)) 41 1 (σ.1 44 (1 * 13 + y))) 40 2 ((σ.1 45 2) + z)) 41 2 (σ.1 44 (2 * 13 + z))) := (by repeat (first | exact Fr.rf | (refine fr_I ?_ (by decide)) | (refine fr_J ?_ (by decide)) | (refine fr_C ?_ (by decide))))
  have hF : Fr [39, 40, 41, 42, 43, 46] σ τ := hF0.tr (hG.mono (by decide))
  have hoτ : ScOK τ 17 := ho.cg (sameScW_17 hF)
  have ea := adS_cg (md := σ.1 17 11) (p := σ.1 17 10) (u := ((upI (upI (upI (upI (upI (upI σ 40 0 ((σ.1 45 0) + x)) 41 0 (σ.1 44 (0 * 13 + x))) 40 1 ((σ.1 45 1) + y)) 41 1 (σ.1 44 (1 * 13 + y))) 40 2 ((σ.1 45 2) + z)) 41 2 (σ.1 44 (2 * 13 + z)))).1 41) (v := (fun w => σ.1 44 (w * 13 + rowW x y z w))) rfl rfl rfl
  have er := adS_rg (md := σ.1 17 11) (p := σ.1 17 10) (u := (fun w => σ.1 44 (w * 13 + rowW x y z w))) ho.2.2.2.2.1 (three_of hw0 hw1 hw2)
  have k0 : τ.1 42 0 = adS (σ.1 17 11) (σ.1 17 10) (fun w => σ.1 44 (w * 13 + rowW x y z w)) 0 := h3.1.trans (ea 0 (by decide) (by decide))
  have k1 : τ.1 42 1 = adS (σ.1 17 11) (σ.1 17 10) (fun w => σ.1 44 (w * 13 + rowW x y z w)) 1 := h3.2.1.trans (ea 1 (by decide) (by decide))
  have k2 : τ.1 42 2 = adS (σ.1 17 11) (σ.1 17 10) (fun w => σ.1 44 (w * 13 + rowW x y z w)) 2 := h3.2.2.trans (ea 2 (by decide) (by decide))
  have j0 : τ.1 40 0 = σ.1 45 0 + x := (congrFun (hG 40 (by decide)).1 0).trans rfl
  have j1 : τ.1 40 1 = σ.1 45 1 + y := (congrFun (hG 40 (by decide)).1 1).trans rfl
  have j2 : τ.1 40 2 = σ.1 45 2 + z := (congrFun (hG 40 (by decide)).1 2).trans rfl
  have o0 := hot 0 (by decide) (by decide)
  have o1 := hot 1 (by decide) (by decide)
  have o2 := hot 2 (by decide) (by decide)
  have r0 := er 0 (by decide) (by decide)
  have r1 := er 1 (by decide) (by decide)
  have r2 := er 2 (by decide) (by decide)
  have hq : ∀ w, 0 ≤ w → w < 3 → 0 ≤ τ.1 40 w + τ.1 42 w ∧ τ.1 40 w + τ.1 42 w ≤ 2000 := three_of (by rw [j0, k0]; omega) (by rw [j1, k1]; omega) (by rw [j2, k2]; omega)
  refine e_aload_n (pc' := 29) dX0_weigh_28 rfl rfl ?_
  refine e_getR (pc' := 32) dX0_weigh_29 rfl f_0_21 h_43 rfl ?_
  refine e_aload_n (pc' := 33) dX0_weigh_32 rfl rfl ?_
  refine e_iload_n (pc' := 34) dX0_weigh_33 rfl rfl ?_
  refine e_aload_n (pc' := 35) dX0_weigh_34 rfl rfl ?_
  refine e_getR (pc' := 38) dX0_weigh_35 rfl f_0_52 h_17 rfl ?_
  refine e_iload_n (pc' := 39) dX0_weigh_38 rfl rfl ?_
  refine e_iald (pc' := 40) (v := (σ.1 18 g)) dX0_weigh_39 rfl h_18 (by decide) (by omega) (by omega) ((congrFun (hG 18 (by decide)).1 g).trans rfl) ?_
  refine e_iload_n (pc' := 41) dX0_weigh_40 rfl rfl ?_
  refine e_isub (pc' := 42) dX0_weigh_41 rfl ?_
  refine e_iload (pc' := 44) dX0_weigh_42 rfl rfl ?_
  refine e_isub (pc' := 45) dX0_weigh_44 rfl ?_
  refine e_iload (pc' := 47) dX0_weigh_45 rfl rfl ?_
  refine e_isub (pc' := 48) dX0_weigh_47 rfl ?_
  refine e_cv3i (pc' := 51) dX0_weigh_48 rfl k_0_37 h_39 rfl (Nat.le_of_ble_eq_true rfl) rfl rfl ⟨rfl, rfl⟩ ⟨Nat.zero_le _, Nat.zero_le _⟩ (s_haveOf_17 hoτ hq g ((((σ.1 18 g) - x) - y) - z) hg) ?_
  intro r σ' hr; rw [hr.1, hr.2]; clear hr σ'
  rw [show hvO τ 17 (fun w => τ.1 40 w + τ.1 42 w) ((((σ.1 18 g) - x) - y) - z) g = (wvS σ 17 (σ.1 45) (σ.1 44) g x y z) from hvO_cg (sameScW_17 hF) (by show τ.1 40 0 + τ.1 42 0 = _; rw [j0, k0]; rfl) (by show τ.1 40 1 + τ.1 42 1 = _; rw [j1, k1]; rfl) (by show τ.1 40 2 + τ.1 42 2 = _; rw [j2, k2]; rfl) _ _]
  refine e_istore (pc' := 53) (L' := [some (rv 43), some (rv 17), some (iv g), some (iv x), some (iv y), some (iv z), some (iv (wvS σ 17 (σ.1 45) (σ.1 44) g x y z))]) dX0_weigh_51 rfl (by decide) rfl ?_
  refine e_iload (pc' := 55) dX0_weigh_53 rfl rfl ?_
  refine e_aload_n (pc' := 56) dX0_weigh_55 rfl rfl ?_
  refine e_getI (pc' := 59) (v := (σ.1 43 4)) dX0_weigh_56 rfl f_0_49 h_43 rfl ((congrFun (hG 43 (by decide)).1 4).trans rfl) ?_
  refine e_icmpI (pc' := 62) (t := 91) dX0_weigh_59 (by decide) rfl (by first | assumption | exact ⟨by omega, by omega⟩) (by first | assumption | exact ⟨by omega, by omega⟩) (fun (c2_1 : ((wvS σ 17 (σ.1 45) (σ.1 44) g x y z) : Int) ≤ (σ.1 43 4)) => ?_) (fun (c2_1 : ¬ (((wvS σ 17 (σ.1 45) (σ.1 44) g x y z) : Int) ≤ (σ.1 43 4))) => ?_)
  · exact e_vret dX0_weigh_91 rfl ⟨rfl, Nat.le_refl _⟩ ⟨rfl, by unfold updB; rw [if_neg (show ¬ (brOf σ).1 < (wvS σ 17 (σ.1 45) (σ.1 44) g x y z) from (show ¬ σ.1 43 4 < (wvS σ 17 (σ.1 45) (σ.1 44) g x y z) by omega))]; unfold brOf; rw [(hG 43 (by decide)).1, (hG 46 (by decide)).1]; rfl, (congrFun (hG 43 (by decide)).1 5).trans rfl, hF⟩
  · refine e_aload_n (pc' := 63) dX0_weigh_62 rfl rfl ?_
    refine e_iload (pc' := 65) dX0_weigh_63 rfl rfl ?_
    refine e_putI (pc' := 68) dX0_weigh_65 rfl f_0_49 h_43 rfl rfl rfl ?_
    refine e_aload_n (pc' := 69) dX0_weigh_68 rfl rfl ?_
    refine e_getR (pc' := 72) dX0_weigh_69 rfl f_0_18 h_43 rfl ?_
    refine e_iconst (pc' := 73) dX0_weigh_72 rfl ?_
    refine e_iload_n (pc' := 74) dX0_weigh_73 rfl rfl ?_
    refine e_iast (pc' := 75) dX0_weigh_74 rfl h_46 (by decide) (by omega) (by omega) ?_
    refine e_aload_n (pc' := 76) dX0_weigh_75 rfl rfl ?_
    refine e_getR (pc' := 79) dX0_weigh_76 rfl f_0_18 h_43 rfl ?_
    refine e_iconst (pc' := 80) dX0_weigh_79 rfl ?_
    refine e_iload (pc' := 82) dX0_weigh_80 rfl rfl ?_
    refine e_iast (pc' := 83) dX0_weigh_82 rfl h_46 (by decide) (by omega) (by omega) ?_
    refine e_aload_n (pc' := 84) dX0_weigh_83 rfl rfl ?_
    refine e_getR (pc' := 87) dX0_weigh_84 rfl f_0_18 h_43 rfl ?_
    refine e_iconst (pc' := 88) dX0_weigh_87 rfl ?_
    refine e_iload (pc' := 90) dX0_weigh_88 rfl rfl ?_
    refine e_iast (pc' := 91) dX0_weigh_90 rfl h_46 (by decide) (by omega) (by omega) ?_
    exact e_vret dX0_weigh_91 rfl ⟨rfl, Nat.le_refl _⟩ ⟨rfl, by unfold updB; rw [if_pos (show (brOf σ).1 < (wvS σ 17 (σ.1 45) (σ.1 44) g x y z) from (show σ.1 43 4 < (wvS σ 17 (σ.1 45) (σ.1 44) g x y z) by omega))]; rfl, (congrFun (hG 43 (by decide)).1 5).trans rfl, by repeat (first | exact hF | (refine fr_I ?_ (by decide)))⟩
