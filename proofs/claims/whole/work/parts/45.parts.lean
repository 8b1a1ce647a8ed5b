/-- what the rule would add where a giver's gift to a work is parted by hands -/
def wpS (σ : SG) (g w x y z v : Int) : Int := if v = w then tlR σ 1 (seeS (seeS (seeS (seeS (saI (σ.1 6) w g (σ.1 1 6)) (σ.1 6 (g * 3 + w) - x - y - z)) x) y) z) else wdS σ 1 v
def ptM (σ : SG) (g w x y z : Int) : Int := hvO σ 1 (fun v => gfS σ 1 v + adS (σ.1 1 11) (σ.1 1 10) (wpS σ g w x y z) v) (ktO σ 1 g) g - bfS σ 1 g
theorem wpS_rg (σ : SG) (g w x y z v : Int) : 0 ≤ wpS σ g w x y z v ∧ wpS σ g w x y z v ≤ 99 := by
  unfold wpS
  split
  · exact tlR_rg _ _ _
  · exact wdS_rg _ _ _
theorem sameSc_P {σ τ : SG} (h : Fr [37, 38, 39, 40, 41, 42, 53, 54] σ τ) : SameSc σ τ 1 := fun k h1 h2 => (h k (by simp only [List.mem_cons, List.not_mem_nil, or_false]; omega)).1
/-- the ledger while partings are weighed -/
def PlI (σ τ : SG) (g w : Int) : Prop := (∀ v, 0 ≤ v → v < 3 → τ.1 40 v = gfS σ 1 v) ∧ (∀ v, 0 ≤ v → v < 3 → v ≠ w → τ.1 41 v = wdS σ 1 v) ∧ τ.1 53 2 = bfS σ 1 g ∧ Fr [37, 38, 39, 40, 41, 42, 53, 54] σ τ
def hnS (y z : Int) : Int := if 0 < z then 4 else if 0 < y then 3 else 2
theorem sa5_R {f : Int → Int} {w a G : Int} (hG : G ≤ 5) (p x y z : Int) : stR (seeS (seeS (seeS (seeS (saI f w a G) p) x) y) z) := by
  have h0 := saS_rg f w a G.toNat
  have h2 := saS_ok f w a G.toNat
  have h3 : G.toNat ≤ 5 := by omega
  have h1 := seeS_rg (seeS_rg (seeS_rg (seeS_rg h0 p) x) y) z
  have h4 := seeS_ok (seeS_ok (seeS_ok (seeS_ok h2 p) x) y) z
  unfold saI
  exact ⟨⟨by omega, by omega⟩, ⟨by omega, by omega⟩, ⟨by have := h4.1; omega, by have := h4.2.1; omega⟩, ⟨by have := h4.2.2.1; omega, by have := h4.2.2.2; omega⟩⟩
theorem fun_upd {f : Int → Int} {i v : Int} {g : Int → Int} (h : g = fun j => if j = i then v else f j) (j : Int) : g j = if j = i then v else f j := congrFun h j

set_option maxHeartbeats 4000000 in
set_option maxRecDepth 100000 in
theorem l_pweigh_0 {X : AX} {d : Nat} {σ τ : SG} (ho : ScOK σ 1) (g w x y z : Int) (hg : 0 ≤ g ∧ g < σ.1 1 6) (hw : 0 ≤ w ∧ w < σ.1 1 7) (hx : 0 ≤ x ∧ x ≤ 12) (hy : 0 ≤ y ∧ y ≤ 12) (hz : 0 ≤ z ∧ z ≤ 12) (hI : PlI σ τ g w) (hm : ∀ j, 0 ≤ j → j < 5 → 0 ≤ τ.1 54 j ∧ τ.1 54 j ≤ 1000000) (hV : -1000000 ≤ ptM σ g w x y z ∧ ptM σ g w x y z ≤ 1000000) (hb : rg (bfS σ 1 g)) (h9 : σ.1 1 9 = 0) : Ev X 0 0 (d + 4) mX4_weigh 0 [some (rv 53), some (rv 1), some (iv g), some (iv w), some (iv x), some (iv y), some (iv z), none, none, none] [] τ (QV (fun σ' => PlI σ σ' g w ∧ ∀ j, σ'.1 54 j = if j = hnS y z then max (τ.1 54 j) (ptM σ g w x y z) else τ.1 54 j)) := by
  have hF : Fr [37, 38, 39, 40, 41, 42, 53, 54] σ τ := hI.2.2.2
  have hoτ : ScOK τ 1 := ho.cg (sameSc_P hF)
  have e1 : τ.1 1 = σ.1 1 := (hF 1 (by decide)).1
  have e6 : τ.1 6 = σ.1 6 := (hF 6 (by decide)).1
  have h6 := ho.1
  have h7 := ho.2.1
  have h9r := ho.2.2.2.1
  have hgf : 0 ≤ σ.1 6 (g * 3 + w) ∧ σ.1 6 (g * 3 + w) ≤ 12 := ho.2.2.2.2.2.2.1 (g * 3 + w) (by omega) (by omega)
  obtain ⟨hb1, hb2⟩ := hb
  refine e_aload_n (pc' := 1) dX4_weigh_0 rfl rfl ?_
  refine e_getR (pc' := 4) dX4_weigh_1 rfl f_4_15 h_53 rfl ?_
  refine e_getR (pc' := 7) dX4_weigh_4 rfl f_4_46 h_39 rfl ?_
  refine e_astore (pc' := 9) (L' := [some (rv 53), some (rv 1), some (iv g), some (iv w), some (iv x), some (iv y), some (iv z), some (rv 37), none, none]) dX4_weigh_7 rfl (by decide) rfl ?_
  refine e_aload (pc' := 11) dX4_weigh_9 rfl rfl ?_
  refine e_aload_n (pc' := 12) dX4_weigh_11 rfl rfl ?_
  refine e_iload_n (pc' := 13) dX4_weigh_12 rfl rfl ?_
  refine e_iload_n (pc' := 14) dX4_weigh_13 rfl rfl ?_
  refine e_cv3v (pc' := 17) dX4_weigh_14 rfl k_4_50 h_37 rfl (Nat.le_of_ble_eq_true rfl) rfl rfl ⟨rfl, rfl⟩ ⟨Nat.zero_le _, Nat.zero_le _⟩ (s_seeAllBut_1 hoτ.1 hoτ.2.2.2.2.2.2.1 w g ⟨by omega, by omega⟩ ⟨by omega, by omega⟩) ?_
  rintro τ1 ⟨hS1, hG1⟩
  rw [e1, e6] at hS1
  have hF1 : Fr [37, 38, 39, 40, 41, 42, 53, 54] σ τ1 := hF.tr (hG1.mono (by decide))
  have g1 : Fr [37, 38] τ τ1 := hG1.mono (by decide)
  refine e_aload (pc' := 19) dX4_weigh_17 rfl rfl ?_
  refine e_aload_n (pc' := 20) dX4_weigh_19 rfl rfl ?_
  refine e_getR (pc' := 23) dX4_weigh_20 rfl f_4_39 h_1 rfl ?_
  refine e_iload_n (pc' := 24) dX4_weigh_23 rfl rfl ?_
  refine e_iconst (pc' := 25) dX4_weigh_24 rfl ?_
  refine e_imul (pc' := 26) dX4_weigh_25 rfl ?_
  refine e_iload_n (pc' := 27) dX4_weigh_26 rfl rfl ?_
  refine e_iadd (pc' := 28) dX4_weigh_27 rfl ?_
  refine e_iald (pc' := 29) (v := (σ.1 6 ((g * 3) + w))) dX4_weigh_28 rfl h_6 (by decide) (by omega) (by omega) ((congrFun (hF1 6 (by decide)).1 ((g * 3) + w)).trans rfl) ?_
  refine e_iload (pc' := 31) dX4_weigh_29 rfl rfl ?_
  refine e_isub (pc' := 32) dX4_weigh_31 rfl ?_
  refine e_iload (pc' := 34) dX4_weigh_32 rfl rfl ?_
  refine e_isub (pc' := 35) dX4_weigh_34 rfl ?_
  refine e_iload (pc' := 37) dX4_weigh_35 rfl rfl ?_
  refine e_isub (pc' := 38) dX4_weigh_37 rfl ?_
  refine e_cv1v (pc' := 41) dX4_weigh_38 rfl k_4_56 h_37 rfl (Nat.le_of_ble_eq_true rfl) rfl rfl ⟨rfl, rfl⟩ ⟨Nat.zero_le _, Nat.zero_le _⟩ (s_see (saI (σ.1 6) w g (σ.1 1 6)) ((((σ.1 6 ((g * 3) + w)) - x) - y) - z) hS1 (saS_ok _ _ _ _) ⟨by omega, by omega⟩) ?_
  rintro τ2 ⟨hS2, hG2⟩
  have hF2 : Fr [37, 38, 39, 40, 41, 42, 53, 54] σ τ2 := hF1.tr (hG2.mono (by decide))
  have g2 : Fr [37, 38] τ τ2 := g1.tr (hG2.mono (by decide))
  refine e_aload (pc' := 43) dX4_weigh_41 rfl rfl ?_
  refine e_iload (pc' := 45) dX4_weigh_43 rfl rfl ?_
  refine e_cv1v (pc' := 48) dX4_weigh_45 rfl k_4_56 h_37 rfl (Nat.le_of_ble_eq_true rfl) rfl rfl ⟨rfl, rfl⟩ ⟨Nat.zero_le _, Nat.zero_le _⟩ (s_see (seeS (saI (σ.1 6) w g (σ.1 1 6)) (σ.1 6 (g * 3 + w) - x - y - z)) x hS2 (seeS_ok (saS_ok _ _ _ _) _) ⟨by omega, by omega⟩) ?_
  rintro τ3 ⟨hS3, hG3⟩
  have hF3 : Fr [37, 38, 39, 40, 41, 42, 53, 54] σ τ3 := hF2.tr (hG3.mono (by decide))
  have g3 : Fr [37, 38] τ τ3 := g2.tr (hG3.mono (by decide))
  refine e_aload (pc' := 50) dX4_weigh_48 rfl rfl ?_
  refine e_iload (pc' := 52) dX4_weigh_50 rfl rfl ?_
  refine e_cv1v (pc' := 55) dX4_weigh_52 rfl k_4_56 h_37 rfl (Nat.le_of_ble_eq_true rfl) rfl rfl ⟨rfl, rfl⟩ ⟨Nat.zero_le _, Nat.zero_le _⟩ (s_see (seeS (seeS (saI (σ.1 6) w g (σ.1 1 6)) (σ.1 6 (g * 3 + w) - x - y - z)) x) y hS3 (seeS_ok (seeS_ok (saS_ok _ _ _ _) _) _) ⟨by omega, by omega⟩) ?_
  rintro τ4 ⟨hS4, hG4⟩
  have hF4 : Fr [37, 38, 39, 40, 41, 42, 53, 54] σ τ4 := hF3.tr (hG4.mono (by decide))
  have g4 : Fr [37, 38] τ τ4 := g3.tr (hG4.mono (by decide))
  refine e_aload (pc' := 57) dX4_weigh_55 rfl rfl ?_
  refine e_iload (pc' := 59) dX4_weigh_57 rfl rfl ?_
  refine e_cv1v (pc' := 62) dX4_weigh_59 rfl k_4_56 h_37 rfl (Nat.le_of_ble_eq_true rfl) rfl rfl ⟨rfl, rfl⟩ ⟨Nat.zero_le _, Nat.zero_le _⟩ (s_see (seeS (seeS (seeS (saI (σ.1 6) w g (σ.1 1 6)) (σ.1 6 (g * 3 + w) - x - y - z)) x) y) z hS4 (seeS_ok (seeS_ok (seeS_ok (saS_ok _ _ _ _) _) _) _) ⟨by omega, by omega⟩) ?_
  rintro τ5 ⟨hS5, hG5⟩
  have hF5 : Fr [37, 38, 39, 40, 41, 42, 53, 54] σ τ5 := hF4.tr (hG5.mono (by decide))
  have g5 : Fr [37, 38] τ τ5 := g4.tr (hG5.mono (by decide))
  refine e_aload_n (pc' := 63) dX4_weigh_62 rfl rfl ?_
  refine e_getR (pc' := 66) dX4_weigh_63 rfl f_4_15 h_53 rfl ?_
  refine e_getR (pc' := 69) dX4_weigh_66 rfl f_4_60 h_39 rfl ?_
  refine e_iload_n (pc' := 70) dX4_weigh_69 rfl rfl ?_
  refine e_aload (pc' := 72) dX4_weigh_70 rfl rfl ?_
  refine e_aload_n (pc' := 73) dX4_weigh_72 rfl rfl ?_
  refine e_getR (pc' := 76) dX4_weigh_73 rfl f_4_63 h_1 rfl ?_
  refine e_aload_n (pc' := 77) dX4_weigh_76 rfl rfl ?_
  refine e_getI (pc' := 80) (v := (σ.1 1 9)) dX4_weigh_77 rfl f_4_67 h_1 rfl ((congrFun (hF5 1 (by decide)).1 9).trans rfl) ?_
  refine e_aald (pc' := 81) (k := 8) dX4_weigh_80 rfl h_7 (by decide) (by decide) (by omega) (by omega) (by rw [h9]; rfl) ?_
  refine e_cv1i (pc' := 84) dX4_weigh_81 rfl k_4_70 h_37 rfl (Nat.le_of_ble_eq_true rfl) rfl rfl ⟨rfl, rfl⟩ ⟨Nat.zero_le _, Nat.zero_le _⟩ (s_told_1_0 (ho.cg (sameSc_P hF5)) ((congrFun (hF5 1 (by decide)).1 9).trans h9) (seeS (seeS (seeS (seeS (saI (σ.1 6) w g (σ.1 1 6)) (σ.1 6 (g * 3 + w) - x - y - z)) x) y) z) hS5 (sa5_R (by omega) _ _ _ _)) ?_
  rintro v6 τ6 ⟨hv6, hG6⟩
  rw [tlR_cg ho (sameSc_P hF5)] at hv6
  have hF6 : Fr [37, 38, 39, 40, 41, 42, 53, 54] σ τ6 := hF5.tr (hG6.mono (by decide))
  have g6 : Fr [37, 38] τ τ6 := g5.tr hG6
  refine e_iast (pc' := 85) dX4_weigh_84 rfl h_41 (by decide) (by omega) (by omega) ?_
  have hF7 : Fr [37, 38, 39, 40, 41, 42, 53, 54] σ (upI τ6 41 w v6) := fr_I hF6 (by decide)
  have ho7 : ScOK (upI τ6 41 w v6) 1 := ho.cg (sameSc_P hF7)
  have uu : ∀ v, 0 ≤ v → v < 3 → ((upI τ6 41 w v6)).1 41 v = wpS σ g w x y z v := by
    intro v a b
    show (if 41 = 41 ∧ v = w then v6 else τ6.1 41 v) = _
    unfold wpS
    by_cases hv : v = w
    · rw [if_pos ⟨rfl, hv⟩, if_pos hv]; exact hv6
    · rw [if_neg (fun q => hv q.2), if_neg hv, (g6 41 (by decide)).1]; exact hI.2.1 v a b hv
  have u0 := uu 0 (by decide) (by decide)
  have u1 := uu 1 (by decide) (by decide)
  have u2 := uu 2 (by decide) (by decide)
  refine e_aload_n (pc' := 86) dX4_weigh_85 rfl rfl ?_
  refine e_getR (pc' := 89) dX4_weigh_86 rfl f_4_15 h_53 rfl ?_
  refine e_aload_n (pc' := 90) dX4_weigh_89 rfl rfl ?_
  refine e_cv1v (pc' := 93) dX4_weigh_90 rfl k_4_74 h_39 rfl (Nat.le_of_ble_eq_true rfl) rfl rfl ⟨rfl, rfl⟩ ⟨Nat.zero_le _, Nat.zero_le _⟩ (s_partPurse_1 (σ := (upI τ6 41 w v6)) (by rw [u0]; exact wpS_rg _ _ _ _ _ _ _) (by rw [u1]; exact wpS_rg _ _ _ _ _ _ _) (by rw [u2]; exact wpS_rg _ _ _ _ _ _ _) ho7.2.2.2.2.1 ho7.2.2.2.2.2.1) ?_
  rintro τ8 ⟨h3, h4, hG8⟩
  have hF8 : Fr [37, 38, 39, 40, 41, 42, 53, 54] σ τ8 := hF7.tr (hG8.mono (by decide))
  have ho8 : ScOK τ8 1 := ho.cg (sameSc_P hF8)
  have ea := adS_cg (md := σ.1 1 11) (p := σ.1 1 10) (u := ((upI τ6 41 w v6)).1 41) (v := wpS σ g w x y z) u0 u1 u2
  rw [(hF7 1 (by decide)).1] at h3
  have er := adS_rg (md := σ.1 1 11) (p := σ.1 1 10) (u := wpS σ g w x y z) ho.2.2.2.2.1 (fun v _ _ => wpS_rg _ _ _ _ _ _ _)
  have k0 := h3.1.trans (ea 0 (by decide) (by decide))
  have k1 := h3.2.1.trans (ea 1 (by decide) (by decide))
  have k2 := h3.2.2.trans (ea 2 (by decide) (by decide))
  have j40 : τ8.1 40 = τ.1 40 := ((hG8 40 (by decide)).1).trans ((g6 40 (by decide)).1)
  have j0 : τ8.1 40 0 = gfS σ 1 0 := (congrFun j40 0).trans (hI.1 0 (by decide) (by decide))
  have j1 : τ8.1 40 1 = gfS σ 1 1 := (congrFun j40 1).trans (hI.1 1 (by decide) (by decide))
  have j2 : τ8.1 40 2 = gfS σ 1 2 := (congrFun j40 2).trans (hI.1 2 (by decide) (by decide))
  have o0 := gfS_rg ho 0 (by decide) (by decide)
  have o1 := gfS_rg ho 1 (by decide) (by decide)
  have o2 := gfS_rg ho 2 (by decide) (by decide)
  have r0 := er 0 (by decide) (by decide)
  have r1 := er 1 (by decide) (by decide)
  have r2 := er 2 (by decide) (by decide)
  have hq : ∀ w, 0 ≤ w → w < 3 → 0 ≤ τ8.1 40 w + τ8.1 42 w ∧ τ8.1 40 w + τ8.1 42 w ≤ 2000 := three_of (by rw [j0, k0]; omega) (by rw [j1, k1]; omega) (by rw [j2, k2]; omega)
  have hp8 : τ8.1 53 2 = bfS σ 1 g := (congrFun ((hG8 53 (by decide)).1.trans (g6 53 (by decide)).1) 2).trans hI.2.2.1
  have hk8 : ktO τ8 1 g = ktO σ 1 g := ktO_cg (sameSc_P hF8) g
  have h54 : τ8.1 54 = τ.1 54 := (hG8 54 (by decide)).1.trans (g6 54 (by decide)).1
  refine e_aload_n (pc' := 94) dX4_weigh_93 rfl rfl ?_
  refine e_getR (pc' := 97) dX4_weigh_94 rfl f_4_15 h_53 rfl ?_
  refine e_aload_n (pc' := 98) dX4_weigh_97 rfl rfl ?_
  refine e_iload_n (pc' := 99) dX4_weigh_98 rfl rfl ?_
  refine e_aload_n (pc' := 100) dX4_weigh_99 rfl rfl ?_
  refine e_iload_n (pc' := 101) dX4_weigh_100 rfl rfl ?_
  refine e_cv1i (pc' := 104) dX4_weigh_101 rfl k_4_25 h_1 rfl (Nat.le_of_ble_eq_true rfl) rfl rfl ⟨rfl, rfl⟩ ⟨Nat.zero_le _, Nat.zero_le _⟩ (s_keptBy_1 g (by omega) (by omega)) ?_
  intro r σ' hr; rw [hr.1, hr.2]; clear hr σ'
  rw [show τ8.1 2 g - gv (τ8.1 6) g = ktO σ 1 g from hk8]
  refine e_cv3i (pc' := 107) dX4_weigh_104 rfl k_4_31 h_39 rfl (Nat.le_of_ble_eq_true rfl) rfl rfl ⟨rfl, rfl⟩ ⟨Nat.zero_le _, Nat.zero_le _⟩ (s_haveOf_1 ho8 hq g (ktO σ 1 g) ⟨by omega, by omega⟩) ?_
  intro r σ' hr; rw [hr.1, hr.2]; clear hr σ'
  rw [show hvO τ8 1 (fun w => τ8.1 40 w + τ8.1 42 w) (ktO σ 1 g) g = ptM σ g w x y z + bfS σ 1 g from (hvO_cg (a' := fun v => gfS σ 1 v + adS (σ.1 1 11) (σ.1 1 10) (wpS σ g w x y z) v) (sameSc_P hF8) (by show τ8.1 40 0 + τ8.1 42 0 = _; rw [j0, k0]) (by show τ8.1 40 1 + τ8.1 42 1 = _; rw [j1, k1]) (by show τ8.1 40 2 + τ8.1 42 2 = _; rw [j2, k2]) _ _).trans (by unfold ptM; omega)]
  refine e_aload_n (pc' := 108) dX4_weigh_107 rfl rfl ?_
  refine e_getI (pc' := 111) (v := (bfS σ 1 g)) dX4_weigh_108 rfl f_4_35 h_53 rfl hp8 ?_
  refine e_isub (pc' := 112) dX4_weigh_111 rfl ?_
  refine e_istore (pc' := 114) (L' := [some (rv 53), some (rv 1), some (iv g), some (iv w), some (iv x), some (iv y), some (iv z), some (rv 37), some (iv ((ptM σ g w x y z + bfS σ 1 g) - (bfS σ 1 g))), none]) dX4_weigh_112 rfl (by decide) rfl ?_
  refine e_iload (pc' := 116) dX4_weigh_114 rfl rfl ?_
  refine e_ifI (pc' := 119) (t := 123) dX4_weigh_116 (by decide) rfl ⟨by first | omega | (have := hm 2 (by decide) (by decide); have := hm 3 (by decide) (by decide); have := hm 4 (by decide) (by decide); omega), by first | omega | (have := hm 2 (by decide) (by decide); have := hm 3 (by decide) (by decide); have := hm 4 (by decide) (by decide); omega)⟩ (fun (c2_1 : (z : Int) ≤ 0) => ?_) (fun (c2_1 : ¬ ((z : Int) ≤ 0)) => ?_)
  · refine e_iload (pc' := 125) dX4_weigh_123 rfl rfl ?_
    refine e_ifI (pc' := 128) (t := 132) dX4_weigh_125 (by decide) rfl ⟨by first | omega | (have := hm 2 (by decide) (by decide); have := hm 3 (by decide) (by decide); have := hm 4 (by decide) (by decide); omega), by first | omega | (have := hm 2 (by decide) (by decide); have := hm 3 (by decide) (by decide); have := hm 4 (by decide) (by decide); omega)⟩ (fun (c4_2 : (y : Int) ≤ 0) => ?_) (fun (c4_2 : ¬ ((y : Int) ≤ 0)) => ?_)
    · refine e_iconst (pc' := 133) dX4_weigh_132 rfl ?_
      refine e_istore (pc' := 135) (L' := [some (rv 53), some (rv 1), some (iv g), some (iv w), some (iv x), some (iv y), some (iv z), some (rv 37), some (iv ((ptM σ g w x y z + bfS σ 1 g) - (bfS σ 1 g))), some (iv 2)]) dX4_weigh_133 rfl (by decide) rfl ?_
      refine e_aload_n (pc' := 136) dX4_weigh_135 rfl rfl ?_
      refine e_getR (pc' := 139) dX4_weigh_136 rfl f_4_9 h_53 rfl ?_
      refine e_iload (pc' := 141) dX4_weigh_139 rfl rfl ?_
      refine e_aload_n (pc' := 142) dX4_weigh_141 rfl rfl ?_
      refine e_getR (pc' := 145) dX4_weigh_142 rfl f_4_9 h_53 rfl ?_
      refine e_iload (pc' := 147) dX4_weigh_145 rfl rfl ?_
      refine e_iald (pc' := 148) (v := ((τ.1 54) 2)) dX4_weigh_147 rfl h_54 (by decide) (by omega) (by omega) (congrFun h54 2) ?_
      refine e_iload (pc' := 150) dX4_weigh_148 rfl rfl ?_
      refine e_max (pc' := 153) dX4_weigh_150 rfl p_4_77 ⟨by first | omega | (have := hm 2 (by decide) (by decide); have := hm 3 (by decide) (by decide); have := hm 4 (by decide) (by decide); omega), by first | omega | (have := hm 2 (by decide) (by decide); have := hm 3 (by decide) (by decide); have := hm 4 (by decide) (by decide); omega)⟩ ⟨by first | omega | (have := hm 2 (by decide) (by decide); have := hm 3 (by decide) (by decide); have := hm 4 (by decide) (by decide); omega), by first | omega | (have := hm 2 (by decide) (by decide); have := hm 3 (by decide) (by decide); have := hm 4 (by decide) (by decide); omega)⟩ (Nat.le_of_ble_eq_true rfl) ⟨Nat.zero_le _, Nat.zero_le _⟩ ?_
      refine e_iast (pc' := 154) dX4_weigh_153 rfl h_54 (by decide) (by omega) (by omega) ?_
      exact e_vret dX4_weigh_154 rfl ⟨rfl, Nat.le_refl _⟩ (by
            have hn : hnS y z = 2 := by unfold hnS; first | rw [if_pos (by omega)] | (rw [if_neg (by omega)]; first | rw [if_pos (by omega)] | rw [if_neg (by omega)])
            refine ⟨rfl, ⟨fun v a b => (congrFun j40 v).trans (hI.1 v a b), fun v a b hv => ?_, hp8, fr_I hF8 (by decide)⟩, fun j => ?_⟩
            · show τ8.1 41 v = _
              rw [(hG8 41 (by decide)).1]
              show (if 41 = 41 ∧ v = w then v6 else τ6.1 41 v) = _
              rw [if_neg (fun q => hv q.2), (g6 41 (by decide)).1]; exact hI.2.1 v a b hv
            · rw [hn]
              show (if 54 = 54 ∧ j = 2 then max (τ.1 54 2) (ptM σ g w x y z + bfS σ 1 g - bfS σ 1 g) else τ8.1 54 j) = _
              by_cases hj : j = 2
              · rw [if_pos ⟨rfl, hj⟩, if_pos hj, show ptM σ g w x y z + bfS σ 1 g - bfS σ 1 g = ptM σ g w x y z by omega, hj]
              · rw [if_neg (fun q => hj q.2), if_neg hj, h54])
    · refine e_iconst (pc' := 129) dX4_weigh_128 rfl ?_
      refine e_goto (pc' := 133) dX4_weigh_129 (by decide) ?_
      refine e_istore (pc' := 135) (L' := [some (rv 53), some (rv 1), some (iv g), some (iv w), some (iv x), some (iv y), some (iv z), some (rv 37), some (iv ((ptM σ g w x y z + bfS σ 1 g) - (bfS σ 1 g))), some (iv 3)]) dX4_weigh_133 rfl (by decide) rfl ?_
      refine e_aload_n (pc' := 136) dX4_weigh_135 rfl rfl ?_
      refine e_getR (pc' := 139) dX4_weigh_136 rfl f_4_9 h_53 rfl ?_
      refine e_iload (pc' := 141) dX4_weigh_139 rfl rfl ?_
      refine e_aload_n (pc' := 142) dX4_weigh_141 rfl rfl ?_
      refine e_getR (pc' := 145) dX4_weigh_142 rfl f_4_9 h_53 rfl ?_
      refine e_iload (pc' := 147) dX4_weigh_145 rfl rfl ?_
      refine e_iald (pc' := 148) (v := ((τ.1 54) 3)) dX4_weigh_147 rfl h_54 (by decide) (by omega) (by omega) (congrFun h54 3) ?_
      refine e_iload (pc' := 150) dX4_weigh_148 rfl rfl ?_
      refine e_max (pc' := 153) dX4_weigh_150 rfl p_4_77 ⟨by first | omega | (have := hm 2 (by decide) (by decide); have := hm 3 (by decide) (by decide); have := hm 4 (by decide) (by decide); omega), by first | omega | (have := hm 2 (by decide) (by decide); have := hm 3 (by decide) (by decide); have := hm 4 (by decide) (by decide); omega)⟩ ⟨by first | omega | (have := hm 2 (by decide) (by decide); have := hm 3 (by decide) (by decide); have := hm 4 (by decide) (by decide); omega), by first | omega | (have := hm 2 (by decide) (by decide); have := hm 3 (by decide) (by decide); have := hm 4 (by decide) (by decide); omega)⟩ (Nat.le_of_ble_eq_true rfl) ⟨Nat.zero_le _, Nat.zero_le _⟩ ?_
      refine e_iast (pc' := 154) dX4_weigh_153 rfl h_54 (by decide) (by omega) (by omega) ?_
      exact e_vret dX4_weigh_154 rfl ⟨rfl, Nat.le_refl _⟩ (by
            have hn : hnS y z = 3 := by unfold hnS; first | rw [if_pos (by omega)] | (rw [if_neg (by omega)]; first | rw [if_pos (by omega)] | rw [if_neg (by omega)])
            refine ⟨rfl, ⟨fun v a b => (congrFun j40 v).trans (hI.1 v a b), fun v a b hv => ?_, hp8, fr_I hF8 (by decide)⟩, fun j => ?_⟩
            · show τ8.1 41 v = _
              rw [(hG8 41 (by decide)).1]
              show (if 41 = 41 ∧ v = w then v6 else τ6.1 41 v) = _
              rw [if_neg (fun q => hv q.2), (g6 41 (by decide)).1]; exact hI.2.1 v a b hv
            · rw [hn]
              show (if 54 = 54 ∧ j = 3 then max (τ.1 54 3) (ptM σ g w x y z + bfS σ 1 g - bfS σ 1 g) else τ8.1 54 j) = _
              by_cases hj : j = 3
              · rw [if_pos ⟨rfl, hj⟩, if_pos hj, show ptM σ g w x y z + bfS σ 1 g - bfS σ 1 g = ptM σ g w x y z by omega, hj]
              · rw [if_neg (fun q => hj q.2), if_neg hj, h54])
  · refine e_iconst (pc' := 120) dX4_weigh_119 rfl ?_
    refine e_goto (pc' := 133) dX4_weigh_120 (by decide) ?_
    refine e_istore (pc' := 135) (L' := [some (rv 53), some (rv 1), some (iv g), some (iv w), some (iv x), some (iv y), some (iv z), some (rv 37), some (iv ((ptM σ g w x y z + bfS σ 1 g) - (bfS σ 1 g))), some (iv 4)]) dX4_weigh_133 rfl (by decide) rfl ?_
    refine e_aload_n (pc' := 136) dX4_weigh_135 rfl rfl ?_
    refine e_getR (pc' := 139) dX4_weigh_136 rfl f_4_9 h_53 rfl ?_
    refine e_iload (pc' := 141) dX4_weigh_139 rfl rfl ?_
    refine e_aload_n (pc' := 142) dX4_weigh_141 rfl rfl ?_
    refine e_getR (pc' := 145) dX4_weigh_142 rfl f_4_9 h_53 rfl ?_
    refine e_iload (pc' := 147) dX4_weigh_145 rfl rfl ?_
    refine e_iald (pc' := 148) (v := ((τ.1 54) 4)) dX4_weigh_147 rfl h_54 (by decide) (by omega) (by omega) (congrFun h54 4) ?_
    refine e_iload (pc' := 150) dX4_weigh_148 rfl rfl ?_
    refine e_max (pc' := 153) dX4_weigh_150 rfl p_4_77 ⟨by first | omega | (have := hm 2 (by decide) (by decide); have := hm 3 (by decide) (by decide); have := hm 4 (by decide) (by decide); omega), by first | omega | (have := hm 2 (by decide) (by decide); have := hm 3 (by decide) (by decide); have := hm 4 (by decide) (by decide); omega)⟩ ⟨by first | omega | (have := hm 2 (by decide) (by decide); have := hm 3 (by decide) (by decide); have := hm 4 (by decide) (by decide); omega), by first | omega | (have := hm 2 (by decide) (by decide); have := hm 3 (by decide) (by decide); have := hm 4 (by decide) (by decide); omega)⟩ (Nat.le_of_ble_eq_true rfl) ⟨Nat.zero_le _, Nat.zero_le _⟩ ?_
    refine e_iast (pc' := 154) dX4_weigh_153 rfl h_54 (by decide) (by omega) (by omega) ?_
    exact e_vret dX4_weigh_154 rfl ⟨rfl, Nat.le_refl _⟩ (by
            have hn : hnS y z = 4 := by unfold hnS; first | rw [if_pos (by omega)] | (rw [if_neg (by omega)]; first | rw [if_pos (by omega)] | rw [if_neg (by omega)])
            refine ⟨rfl, ⟨fun v a b => (congrFun j40 v).trans (hI.1 v a b), fun v a b hv => ?_, hp8, fr_I hF8 (by decide)⟩, fun j => ?_⟩
            · show τ8.1 41 v = _
              rw [(hG8 41 (by decide)).1]
              show (if 41 = 41 ∧ v = w then v6 else τ6.1 41 v) = _
              rw [if_neg (fun q => hv q.2), (g6 41 (by decide)).1]; exact hI.2.1 v a b hv
            · rw [hn]
              show (if 54 = 54 ∧ j = 4 then max (τ.1 54 4) (ptM σ g w x y z + bfS σ 1 g - bfS σ 1 g) else τ8.1 54 j) = _
              by_cases hj : j = 4
              · rw [if_pos ⟨rfl, hj⟩, if_pos hj, show ptM σ g w x y z + bfS σ 1 g - bfS σ 1 g = ptM σ g w x y z by omega, hj]
              · rw [if_neg (fun q => hj q.2), if_neg hj, h54])

set_option maxHeartbeats 4000000 in
set_option maxRecDepth 100000 in
theorem l_pweigh_1 {X : AX} {d : Nat} {σ τ : SG} (ho : ScOK σ 1) (g w x y z : Int) (hg : 0 ≤ g ∧ g < σ.1 1 6) (hw : 0 ≤ w ∧ w < σ.1 1 7) (hx : 0 ≤ x ∧ x ≤ 12) (hy : 0 ≤ y ∧ y ≤ 12) (hz : 0 ≤ z ∧ z ≤ 12) (hI : PlI σ τ g w) (hm : ∀ j, 0 ≤ j → j < 5 → 0 ≤ τ.1 54 j ∧ τ.1 54 j ≤ 1000000) (hV : -1000000 ≤ ptM σ g w x y z ∧ ptM σ g w x y z ≤ 1000000) (hb : rg (bfS σ 1 g)) (h9 : σ.1 1 9 = 1) : Ev X 0 0 (d + 4) mX4_weigh 0 [some (rv 53), some (rv 1), some (iv g), some (iv w), some (iv x), some (iv y), some (iv z), none, none, none] [] τ (QV (fun σ' => PlI σ σ' g w ∧ ∀ j, σ'.1 54 j = if j = hnS y z then max (τ.1 54 j) (ptM σ g w x y z) else τ.1 54 j)) := by
  have hF : Fr [37, 38, 39, 40, 41, 42, 53, 54] σ τ := hI.2.2.2
  have hoτ : ScOK τ 1 := ho.cg (sameSc_P hF)
  have e1 : τ.1 1 = σ.1 1 := (hF 1 (by decide)).1
  have e6 : τ.1 6 = σ.1 6 := (hF 6 (by decide)).1
  have h6 := ho.1
  have h7 := ho.2.1
  have h9r := ho.2.2.2.1
  have hgf : 0 ≤ σ.1 6 (g * 3 + w) ∧ σ.1 6 (g * 3 + w) ≤ 12 := ho.2.2.2.2.2.2.1 (g * 3 + w) (by omega) (by omega)
  obtain ⟨hb1, hb2⟩ := hb
  refine e_aload_n (pc' := 1) dX4_weigh_0 rfl rfl ?_
  refine e_getR (pc' := 4) dX4_weigh_1 rfl f_4_15 h_53 rfl ?_
  refine e_getR (pc' := 7) dX4_weigh_4 rfl f_4_46 h_39 rfl ?_
  refine e_astore (pc' := 9) (L' := [some (rv 53), some (rv 1), some (iv g), some (iv w), some (iv x), some (iv y), some (iv z), some (rv 37), none, none]) dX4_weigh_7 rfl (by decide) rfl ?_
  refine e_aload (pc' := 11) dX4_weigh_9 rfl rfl ?_
  refine e_aload_n (pc' := 12) dX4_weigh_11 rfl rfl ?_
  refine e_iload_n (pc' := 13) dX4_weigh_12 rfl rfl ?_
  refine e_iload_n (pc' := 14) dX4_weigh_13 rfl rfl ?_
  refine e_cv3v (pc' := 17) dX4_weigh_14 rfl k_4_50 h_37 rfl (Nat.le_of_ble_eq_true rfl) rfl rfl ⟨rfl, rfl⟩ ⟨Nat.zero_le _, Nat.zero_le _⟩ (s_seeAllBut_1 hoτ.1 hoτ.2.2.2.2.2.2.1 w g ⟨by omega, by omega⟩ ⟨by omega, by omega⟩) ?_
  rintro τ1 ⟨hS1, hG1⟩
  rw [e1, e6] at hS1
  have hF1 : Fr [37, 38, 39, 40, 41, 42, 53, 54] σ τ1 := hF.tr (hG1.mono (by decide))
  have g1 : Fr [37, 38] τ τ1 := hG1.mono (by decide)
  refine e_aload (pc' := 19) dX4_weigh_17 rfl rfl ?_
  refine e_aload_n (pc' := 20) dX4_weigh_19 rfl rfl ?_
  refine e_getR (pc' := 23) dX4_weigh_20 rfl f_4_39 h_1 rfl ?_
  refine e_iload_n (pc' := 24) dX4_weigh_23 rfl rfl ?_
  refine e_iconst (pc' := 25) dX4_weigh_24 rfl ?_
  refine e_imul (pc' := 26) dX4_weigh_25 rfl ?_
  refine e_iload_n (pc' := 27) dX4_weigh_26 rfl rfl ?_
  refine e_iadd (pc' := 28) dX4_weigh_27 rfl ?_
  refine e_iald (pc' := 29) (v := (σ.1 6 ((g * 3) + w))) dX4_weigh_28 rfl h_6 (by decide) (by omega) (by omega) ((congrFun (hF1 6 (by decide)).1 ((g * 3) + w)).trans rfl) ?_
  refine e_iload (pc' := 31) dX4_weigh_29 rfl rfl ?_
  refine e_isub (pc' := 32) dX4_weigh_31 rfl ?_
  refine e_iload (pc' := 34) dX4_weigh_32 rfl rfl ?_
  refine e_isub (pc' := 35) dX4_weigh_34 rfl ?_
  refine e_iload (pc' := 37) dX4_weigh_35 rfl rfl ?_
  refine e_isub (pc' := 38) dX4_weigh_37 rfl ?_
  refine e_cv1v (pc' := 41) dX4_weigh_38 rfl k_4_56 h_37 rfl (Nat.le_of_ble_eq_true rfl) rfl rfl ⟨rfl, rfl⟩ ⟨Nat.zero_le _, Nat.zero_le _⟩ (s_see (saI (σ.1 6) w g (σ.1 1 6)) ((((σ.1 6 ((g * 3) + w)) - x) - y) - z) hS1 (saS_ok _ _ _ _) ⟨by omega, by omega⟩) ?_
  rintro τ2 ⟨hS2, hG2⟩
  have hF2 : Fr [37, 38, 39, 40, 41, 42, 53, 54] σ τ2 := hF1.tr (hG2.mono (by decide))
  have g2 : Fr [37, 38] τ τ2 := g1.tr (hG2.mono (by decide))
  refine e_aload (pc' := 43) dX4_weigh_41 rfl rfl ?_
  refine e_iload (pc' := 45) dX4_weigh_43 rfl rfl ?_
  refine e_cv1v (pc' := 48) dX4_weigh_45 rfl k_4_56 h_37 rfl (Nat.le_of_ble_eq_true rfl) rfl rfl ⟨rfl, rfl⟩ ⟨Nat.zero_le _, Nat.zero_le _⟩ (s_see (seeS (saI (σ.1 6) w g (σ.1 1 6)) (σ.1 6 (g * 3 + w) - x - y - z)) x hS2 (seeS_ok (saS_ok _ _ _ _) _) ⟨by omega, by omega⟩) ?_
  rintro τ3 ⟨hS3, hG3⟩
  have hF3 : Fr [37, 38, 39, 40, 41, 42, 53, 54] σ τ3 := hF2.tr (hG3.mono (by decide))
  have g3 : Fr [37, 38] τ τ3 := g2.tr (hG3.mono (by decide))
  refine e_aload (pc' := 50) dX4_weigh_48 rfl rfl ?_
  refine e_iload (pc' := 52) dX4_weigh_50 rfl rfl ?_
  refine e_cv1v (pc' := 55) dX4_weigh_52 rfl k_4_56 h_37 rfl (Nat.le_of_ble_eq_true rfl) rfl rfl ⟨rfl, rfl⟩ ⟨Nat.zero_le _, Nat.zero_le _⟩ (s_see (seeS (seeS (saI (σ.1 6) w g (σ.1 1 6)) (σ.1 6 (g * 3 + w) - x - y - z)) x) y hS3 (seeS_ok (seeS_ok (saS_ok _ _ _ _) _) _) ⟨by omega, by omega⟩) ?_
  rintro τ4 ⟨hS4, hG4⟩
  have hF4 : Fr [37, 38, 39, 40, 41, 42, 53, 54] σ τ4 := hF3.tr (hG4.mono (by decide))
  have g4 : Fr [37, 38] τ τ4 := g3.tr (hG4.mono (by decide))
  refine e_aload (pc' := 57) dX4_weigh_55 rfl rfl ?_
  refine e_iload (pc' := 59) dX4_weigh_57 rfl rfl ?_
  refine e_cv1v (pc' := 62) dX4_weigh_59 rfl k_4_56 h_37 rfl (Nat.le_of_ble_eq_true rfl) rfl rfl ⟨rfl, rfl⟩ ⟨Nat.zero_le _, Nat.zero_le _⟩ (s_see (seeS (seeS (seeS (saI (σ.1 6) w g (σ.1 1 6)) (σ.1 6 (g * 3 + w) - x - y - z)) x) y) z hS4 (seeS_ok (seeS_ok (seeS_ok (saS_ok _ _ _ _) _) _) _) ⟨by omega, by omega⟩) ?_
  rintro τ5 ⟨hS5, hG5⟩
  have hF5 : Fr [37, 38, 39, 40, 41, 42, 53, 54] σ τ5 := hF4.tr (hG5.mono (by decide))
  have g5 : Fr [37, 38] τ τ5 := g4.tr (hG5.mono (by decide))
  refine e_aload_n (pc' := 63) dX4_weigh_62 rfl rfl ?_
  refine e_getR (pc' := 66) dX4_weigh_63 rfl f_4_15 h_53 rfl ?_
  refine e_getR (pc' := 69) dX4_weigh_66 rfl f_4_60 h_39 rfl ?_
  refine e_iload_n (pc' := 70) dX4_weigh_69 rfl rfl ?_
  refine e_aload (pc' := 72) dX4_weigh_70 rfl rfl ?_
  refine e_aload_n (pc' := 73) dX4_weigh_72 rfl rfl ?_
  refine e_getR (pc' := 76) dX4_weigh_73 rfl f_4_63 h_1 rfl ?_
  refine e_aload_n (pc' := 77) dX4_weigh_76 rfl rfl ?_
  refine e_getI (pc' := 80) (v := (σ.1 1 9)) dX4_weigh_77 rfl f_4_67 h_1 rfl ((congrFun (hF5 1 (by decide)).1 9).trans rfl) ?_
  refine e_aald (pc' := 81) (k := 11) dX4_weigh_80 rfl h_7 (by decide) (by decide) (by omega) (by omega) (by rw [h9]; rfl) ?_
  refine e_cv1i (pc' := 84) dX4_weigh_81 rfl k_4_70 h_37 rfl (Nat.le_of_ble_eq_true rfl) rfl rfl ⟨rfl, rfl⟩ ⟨Nat.zero_le _, Nat.zero_le _⟩ (s_told_1_1 (ho.cg (sameSc_P hF5)) ((congrFun (hF5 1 (by decide)).1 9).trans h9) (seeS (seeS (seeS (seeS (saI (σ.1 6) w g (σ.1 1 6)) (σ.1 6 (g * 3 + w) - x - y - z)) x) y) z) hS5 (sa5_R (by omega) _ _ _ _)) ?_
  rintro v6 τ6 ⟨hv6, hG6⟩
  rw [tlR_cg ho (sameSc_P hF5)] at hv6
  have hF6 : Fr [37, 38, 39, 40, 41, 42, 53, 54] σ τ6 := hF5.tr (hG6.mono (by decide))
  have g6 : Fr [37, 38] τ τ6 := g5.tr hG6
  refine e_iast (pc' := 85) dX4_weigh_84 rfl h_41 (by decide) (by omega) (by omega) ?_
  have hF7 : Fr [37, 38, 39, 40, 41, 42, 53, 54] σ (upI τ6 41 w v6) := fr_I hF6 (by decide)
  have ho7 : ScOK (upI τ6 41 w v6) 1 := ho.cg (sameSc_P hF7)
  have uu : ∀ v, 0 ≤ v → v < 3 → ((upI τ6 41 w v6)).1 41 v = wpS σ g w x y z v := by
    intro v a b
    show (if 41 = 41 ∧ v = w then v6 else τ6.1 41 v) = _
    unfold wpS
    by_cases hv : v = w
    · rw [if_pos ⟨rfl, hv⟩, if_pos hv]; exact hv6
    · rw [if_neg (fun q => hv q.2), if_neg hv, (g6 41 (by decide)).1]; exact hI.2.1 v a b hv
  have u0 := uu 0 (by decide) (by decide)
  have u1 := uu 1 (by decide) (by decide)
  have u2 := uu 2 (by decide) (by decide)
  refine e_aload_n (pc' := 86) dX4_weigh_85 rfl rfl ?_
  refine e_getR (pc' := 89) dX4_weigh_86 rfl f_4_15 h_53 rfl ?_
  refine e_aload_n (pc' := 90) dX4_weigh_89 rfl rfl ?_
  refine e_cv1v (pc' := 93) dX4_weigh_90 rfl k_4_74 h_39 rfl (Nat.le_of_ble_eq_true rfl) rfl rfl ⟨rfl, rfl⟩ ⟨Nat.zero_le _, Nat.zero_le _⟩ (s_partPurse_1 (σ := (upI τ6 41 w v6)) (by rw [u0]; exact wpS_rg _ _ _ _ _ _ _) (by rw [u1]; exact wpS_rg _ _ _ _ _ _ _) (by rw [u2]; exact wpS_rg _ _ _ _ _ _ _) ho7.2.2.2.2.1 ho7.2.2.2.2.2.1) ?_
  rintro τ8 ⟨h3, h4, hG8⟩
  have hF8 : Fr [37, 38, 39, 40, 41, 42, 53, 54] σ τ8 := hF7.tr (hG8.mono (by decide))
  have ho8 : ScOK τ8 1 := ho.cg (sameSc_P hF8)
  have ea := adS_cg (md := σ.1 1 11) (p := σ.1 1 10) (u := ((upI τ6 41 w v6)).1 41) (v := wpS σ g w x y z) u0 u1 u2
  rw [(hF7 1 (by decide)).1] at h3
  have er := adS_rg (md := σ.1 1 11) (p := σ.1 1 10) (u := wpS σ g w x y z) ho.2.2.2.2.1 (fun v _ _ => wpS_rg _ _ _ _ _ _ _)
  have k0 := h3.1.trans (ea 0 (by decide) (by decide))
  have k1 := h3.2.1.trans (ea 1 (by decide) (by decide))
  have k2 := h3.2.2.trans (ea 2 (by decide) (by decide))
  have j40 : τ8.1 40 = τ.1 40 := ((hG8 40 (by decide)).1).trans ((g6 40 (by decide)).1)
  have j0 : τ8.1 40 0 = gfS σ 1 0 := (congrFun j40 0).trans (hI.1 0 (by decide) (by decide))
  have j1 : τ8.1 40 1 = gfS σ 1 1 := (congrFun j40 1).trans (hI.1 1 (by decide) (by decide))
  have j2 : τ8.1 40 2 = gfS σ 1 2 := (congrFun j40 2).trans (hI.1 2 (by decide) (by decide))
  have o0 := gfS_rg ho 0 (by decide) (by decide)
  have o1 := gfS_rg ho 1 (by decide) (by decide)
  have o2 := gfS_rg ho 2 (by decide) (by decide)
  have r0 := er 0 (by decide) (by decide)
  have r1 := er 1 (by decide) (by decide)
  have r2 := er 2 (by decide) (by decide)
  have hq : ∀ w, 0 ≤ w → w < 3 → 0 ≤ τ8.1 40 w + τ8.1 42 w ∧ τ8.1 40 w + τ8.1 42 w ≤ 2000 := three_of (by rw [j0, k0]; omega) (by rw [j1, k1]; omega) (by rw [j2, k2]; omega)
  have hp8 : τ8.1 53 2 = bfS σ 1 g := (congrFun ((hG8 53 (by decide)).1.trans (g6 53 (by decide)).1) 2).trans hI.2.2.1
  have hk8 : ktO τ8 1 g = ktO σ 1 g := ktO_cg (sameSc_P hF8) g
  have h54 : τ8.1 54 = τ.1 54 := (hG8 54 (by decide)).1.trans (g6 54 (by decide)).1
  refine e_aload_n (pc' := 94) dX4_weigh_93 rfl rfl ?_
  refine e_getR (pc' := 97) dX4_weigh_94 rfl f_4_15 h_53 rfl ?_
  refine e_aload_n (pc' := 98) dX4_weigh_97 rfl rfl ?_
  refine e_iload_n (pc' := 99) dX4_weigh_98 rfl rfl ?_
  refine e_aload_n (pc' := 100) dX4_weigh_99 rfl rfl ?_
  refine e_iload_n (pc' := 101) dX4_weigh_100 rfl rfl ?_
  refine e_cv1i (pc' := 104) dX4_weigh_101 rfl k_4_25 h_1 rfl (Nat.le_of_ble_eq_true rfl) rfl rfl ⟨rfl, rfl⟩ ⟨Nat.zero_le _, Nat.zero_le _⟩ (s_keptBy_1 g (by omega) (by omega)) ?_
  intro r σ' hr; rw [hr.1, hr.2]; clear hr σ'
  rw [show τ8.1 2 g - gv (τ8.1 6) g = ktO σ 1 g from hk8]
  refine e_cv3i (pc' := 107) dX4_weigh_104 rfl k_4_31 h_39 rfl (Nat.le_of_ble_eq_true rfl) rfl rfl ⟨rfl, rfl⟩ ⟨Nat.zero_le _, Nat.zero_le _⟩ (s_haveOf_1 ho8 hq g (ktO σ 1 g) ⟨by omega, by omega⟩) ?_
  intro r σ' hr; rw [hr.1, hr.2]; clear hr σ'
  rw [show hvO τ8 1 (fun w => τ8.1 40 w + τ8.1 42 w) (ktO σ 1 g) g = ptM σ g w x y z + bfS σ 1 g from (hvO_cg (a' := fun v => gfS σ 1 v + adS (σ.1 1 11) (σ.1 1 10) (wpS σ g w x y z) v) (sameSc_P hF8) (by show τ8.1 40 0 + τ8.1 42 0 = _; rw [j0, k0]) (by show τ8.1 40 1 + τ8.1 42 1 = _; rw [j1, k1]) (by show τ8.1 40 2 + τ8.1 42 2 = _; rw [j2, k2]) _ _).trans (by unfold ptM; omega)]
  refine e_aload_n (pc' := 108) dX4_weigh_107 rfl rfl ?_
  refine e_getI (pc' := 111) (v := (bfS σ 1 g)) dX4_weigh_108 rfl f_4_35 h_53 rfl hp8 ?_
  refine e_isub (pc' := 112) dX4_weigh_111 rfl ?_
  refine e_istore (pc' := 114) (L' := [some (rv 53), some (rv 1), some (iv g), some (iv w), some (iv x), some (iv y), some (iv z), some (rv 37), some (iv ((ptM σ g w x y z + bfS σ 1 g) - (bfS σ 1 g))), none]) dX4_weigh_112 rfl (by decide) rfl ?_
  refine e_iload (pc' := 116) dX4_weigh_114 rfl rfl ?_
  refine e_ifI (pc' := 119) (t := 123) dX4_weigh_116 (by decide) rfl ⟨by first | omega | (have := hm 2 (by decide) (by decide); have := hm 3 (by decide) (by decide); have := hm 4 (by decide) (by decide); omega), by first | omega | (have := hm 2 (by decide) (by decide); have := hm 3 (by decide) (by decide); have := hm 4 (by decide) (by decide); omega)⟩ (fun (c2_1 : (z : Int) ≤ 0) => ?_) (fun (c2_1 : ¬ ((z : Int) ≤ 0)) => ?_)
  · refine e_iload (pc' := 125) dX4_weigh_123 rfl rfl ?_
    refine e_ifI (pc' := 128) (t := 132) dX4_weigh_125 (by decide) rfl ⟨by first | omega | (have := hm 2 (by decide) (by decide); have := hm 3 (by decide) (by decide); have := hm 4 (by decide) (by decide); omega), by first | omega | (have := hm 2 (by decide) (by decide); have := hm 3 (by decide) (by decide); have := hm 4 (by decide) (by decide); omega)⟩ (fun (c4_2 : (y : Int) ≤ 0) => ?_) (fun (c4_2 : ¬ ((y : Int) ≤ 0)) => ?_)
    · refine e_iconst (pc' := 133) dX4_weigh_132 rfl ?_
      refine e_istore (pc' := 135) (L' := [some (rv 53), some (rv 1), some (iv g), some (iv w), some (iv x), some (iv y), some (iv z), some (rv 37), some (iv ((ptM σ g w x y z + bfS σ 1 g) - (bfS σ 1 g))), some (iv 2)]) dX4_weigh_133 rfl (by decide) rfl ?_
      refine e_aload_n (pc' := 136) dX4_weigh_135 rfl rfl ?_
      refine e_getR (pc' := 139) dX4_weigh_136 rfl f_4_9 h_53 rfl ?_
      refine e_iload (pc' := 141) dX4_weigh_139 rfl rfl ?_
      refine e_aload_n (pc' := 142) dX4_weigh_141 rfl rfl ?_
      refine e_getR (pc' := 145) dX4_weigh_142 rfl f_4_9 h_53 rfl ?_
      refine e_iload (pc' := 147) dX4_weigh_145 rfl rfl ?_
      refine e_iald (pc' := 148) (v := ((τ.1 54) 2)) dX4_weigh_147 rfl h_54 (by decide) (by omega) (by omega) (congrFun h54 2) ?_
      refine e_iload (pc' := 150) dX4_weigh_148 rfl rfl ?_
      refine e_max (pc' := 153) dX4_weigh_150 rfl p_4_77 ⟨by first | omega | (have := hm 2 (by decide) (by decide); have := hm 3 (by decide) (by decide); have := hm 4 (by decide) (by decide); omega), by first | omega | (have := hm 2 (by decide) (by decide); have := hm 3 (by decide) (by decide); have := hm 4 (by decide) (by decide); omega)⟩ ⟨by first | omega | (have := hm 2 (by decide) (by decide); have := hm 3 (by decide) (by decide); have := hm 4 (by decide) (by decide); omega), by first | omega | (have := hm 2 (by decide) (by decide); have := hm 3 (by decide) (by decide); have := hm 4 (by decide) (by decide); omega)⟩ (Nat.le_of_ble_eq_true rfl) ⟨Nat.zero_le _, Nat.zero_le _⟩ ?_
      refine e_iast (pc' := 154) dX4_weigh_153 rfl h_54 (by decide) (by omega) (by omega) ?_
      exact e_vret dX4_weigh_154 rfl ⟨rfl, Nat.le_refl _⟩ (by
            have hn : hnS y z = 2 := by unfold hnS; first | rw [if_pos (by omega)] | (rw [if_neg (by omega)]; first | rw [if_pos (by omega)] | rw [if_neg (by omega)])
            refine ⟨rfl, ⟨fun v a b => (congrFun j40 v).trans (hI.1 v a b), fun v a b hv => ?_, hp8, fr_I hF8 (by decide)⟩, fun j => ?_⟩
            · show τ8.1 41 v = _
              rw [(hG8 41 (by decide)).1]
              show (if 41 = 41 ∧ v = w then v6 else τ6.1 41 v) = _
              rw [if_neg (fun q => hv q.2), (g6 41 (by decide)).1]; exact hI.2.1 v a b hv
            · rw [hn]
              show (if 54 = 54 ∧ j = 2 then max (τ.1 54 2) (ptM σ g w x y z + bfS σ 1 g - bfS σ 1 g) else τ8.1 54 j) = _
              by_cases hj : j = 2
              · rw [if_pos ⟨rfl, hj⟩, if_pos hj, show ptM σ g w x y z + bfS σ 1 g - bfS σ 1 g = ptM σ g w x y z by omega, hj]
              · rw [if_neg (fun q => hj q.2), if_neg hj, h54])
    · refine e_iconst (pc' := 129) dX4_weigh_128 rfl ?_
      refine e_goto (pc' := 133) dX4_weigh_129 (by decide) ?_
      refine e_istore (pc' := 135) (L' := [some (rv 53), some (rv 1), some (iv g), some (iv w), some (iv x), some (iv y), some (iv z), some (rv 37), some (iv ((ptM σ g w x y z + bfS σ 1 g) - (bfS σ 1 g))), some (iv 3)]) dX4_weigh_133 rfl (by decide) rfl ?_
      refine e_aload_n (pc' := 136) dX4_weigh_135 rfl rfl ?_
      refine e_getR (pc' := 139) dX4_weigh_136 rfl f_4_9 h_53 rfl ?_
      refine e_iload (pc' := 141) dX4_weigh_139 rfl rfl ?_
      refine e_aload_n (pc' := 142) dX4_weigh_141 rfl rfl ?_
      refine e_getR (pc' := 145) dX4_weigh_142 rfl f_4_9 h_53 rfl ?_
      refine e_iload (pc' := 147) dX4_weigh_145 rfl rfl ?_
      refine e_iald (pc' := 148) (v := ((τ.1 54) 3)) dX4_weigh_147 rfl h_54 (by decide) (by omega) (by omega) (congrFun h54 3) ?_
      refine e_iload (pc' := 150) dX4_weigh_148 rfl rfl ?_
      refine e_max (pc' := 153) dX4_weigh_150 rfl p_4_77 ⟨by first | omega | (have := hm 2 (by decide) (by decide); have := hm 3 (by decide) (by decide); have := hm 4 (by decide) (by decide); omega), by first | omega | (have := hm 2 (by decide) (by decide); have := hm 3 (by decide) (by decide); have := hm 4 (by decide) (by decide); omega)⟩ ⟨by first | omega | (have := hm 2 (by decide) (by decide); have := hm 3 (by decide) (by decide); have := hm 4 (by decide) (by decide); omega), by first | omega | (have := hm 2 (by decide) (by decide); have := hm 3 (by decide) (by decide); have := hm 4 (by decide) (by decide); omega)⟩ (Nat.le_of_ble_eq_true rfl) ⟨Nat.zero_le _, Nat.zero_le _⟩ ?_
      refine e_iast (pc' := 154) dX4_weigh_153 rfl h_54 (by decide) (by omega) (by omega) ?_
      exact e_vret dX4_weigh_154 rfl ⟨rfl, Nat.le_refl _⟩ (by
            have hn : hnS y z = 3 := by unfold hnS; first | rw [if_pos (by omega)] | (rw [if_neg (by omega)]; first | rw [if_pos (by omega)] | rw [if_neg (by omega)])
            refine ⟨rfl, ⟨fun v a b => (congrFun j40 v).trans (hI.1 v a b), fun v a b hv => ?_, hp8, fr_I hF8 (by decide)⟩, fun j => ?_⟩
            · show τ8.1 41 v = _
              rw [(hG8 41 (by decide)).1]
              show (if 41 = 41 ∧ v = w then v6 else τ6.1 41 v) = _
              rw [if_neg (fun q => hv q.2), (g6 41 (by decide)).1]; exact hI.2.1 v a b hv
            · rw [hn]
              show (if 54 = 54 ∧ j = 3 then max (τ.1 54 3) (ptM σ g w x y z + bfS σ 1 g - bfS σ 1 g) else τ8.1 54 j) = _
              by_cases hj : j = 3
              · rw [if_pos ⟨rfl, hj⟩, if_pos hj, show ptM σ g w x y z + bfS σ 1 g - bfS σ 1 g = ptM σ g w x y z by omega, hj]
              · rw [if_neg (fun q => hj q.2), if_neg hj, h54])
  · refine e_iconst (pc' := 120) dX4_weigh_119 rfl ?_
    refine e_goto (pc' := 133) dX4_weigh_120 (by decide) ?_
    refine e_istore (pc' := 135) (L' := [some (rv 53), some (rv 1), some (iv g), some (iv w), some (iv x), some (iv y), some (iv z), some (rv 37), some (iv ((ptM σ g w x y z + bfS σ 1 g) - (bfS σ 1 g))), some (iv 4)]) dX4_weigh_133 rfl (by decide) rfl ?_
    refine e_aload_n (pc' := 136) dX4_weigh_135 rfl rfl ?_
    refine e_getR (pc' := 139) dX4_weigh_136 rfl f_4_9 h_53 rfl ?_
    refine e_iload (pc' := 141) dX4_weigh_139 rfl rfl ?_
    refine e_aload_n (pc' := 142) dX4_weigh_141 rfl rfl ?_
    refine e_getR (pc' := 145) dX4_weigh_142 rfl f_4_9 h_53 rfl ?_
    refine e_iload (pc' := 147) dX4_weigh_145 rfl rfl ?_
    refine e_iald (pc' := 148) (v := ((τ.1 54) 4)) dX4_weigh_147 rfl h_54 (by decide) (by omega) (by omega) (congrFun h54 4) ?_
    refine e_iload (pc' := 150) dX4_weigh_148 rfl rfl ?_
    refine e_max (pc' := 153) dX4_weigh_150 rfl p_4_77 ⟨by first | omega | (have := hm 2 (by decide) (by decide); have := hm 3 (by decide) (by decide); have := hm 4 (by decide) (by decide); omega), by first | omega | (have := hm 2 (by decide) (by decide); have := hm 3 (by decide) (by decide); have := hm 4 (by decide) (by decide); omega)⟩ ⟨by first | omega | (have := hm 2 (by decide) (by decide); have := hm 3 (by decide) (by decide); have := hm 4 (by decide) (by decide); omega), by first | omega | (have := hm 2 (by decide) (by decide); have := hm 3 (by decide) (by decide); have := hm 4 (by decide) (by decide); omega)⟩ (Nat.le_of_ble_eq_true rfl) ⟨Nat.zero_le _, Nat.zero_le _⟩ ?_
    refine e_iast (pc' := 154) dX4_weigh_153 rfl h_54 (by decide) (by omega) (by omega) ?_
    exact e_vret dX4_weigh_154 rfl ⟨rfl, Nat.le_refl _⟩ (by
            have hn : hnS y z = 4 := by unfold hnS; first | rw [if_pos (by omega)] | (rw [if_neg (by omega)]; first | rw [if_pos (by omega)] | rw [if_neg (by omega)])
            refine ⟨rfl, ⟨fun v a b => (congrFun j40 v).trans (hI.1 v a b), fun v a b hv => ?_, hp8, fr_I hF8 (by decide)⟩, fun j => ?_⟩
            · show τ8.1 41 v = _
              rw [(hG8 41 (by decide)).1]
              show (if 41 = 41 ∧ v = w then v6 else τ6.1 41 v) = _
              rw [if_neg (fun q => hv q.2), (g6 41 (by decide)).1]; exact hI.2.1 v a b hv
            · rw [hn]
              show (if 54 = 54 ∧ j = 4 then max (τ.1 54 4) (ptM σ g w x y z + bfS σ 1 g - bfS σ 1 g) else τ8.1 54 j) = _
              by_cases hj : j = 4
              · rw [if_pos ⟨rfl, hj⟩, if_pos hj, show ptM σ g w x y z + bfS σ 1 g - bfS σ 1 g = ptM σ g w x y z by omega, hj]
              · rw [if_neg (fun q => hj q.2), if_neg hj, h54])

set_option maxHeartbeats 4000000 in
set_option maxRecDepth 100000 in
theorem l_pweigh_2 {X : AX} {d : Nat} {σ τ : SG} (ho : ScOK σ 1) (g w x y z : Int) (hg : 0 ≤ g ∧ g < σ.1 1 6) (hw : 0 ≤ w ∧ w < σ.1 1 7) (hx : 0 ≤ x ∧ x ≤ 12) (hy : 0 ≤ y ∧ y ≤ 12) (hz : 0 ≤ z ∧ z ≤ 12) (hI : PlI σ τ g w) (hm : ∀ j, 0 ≤ j → j < 5 → 0 ≤ τ.1 54 j ∧ τ.1 54 j ≤ 1000000) (hV : -1000000 ≤ ptM σ g w x y z ∧ ptM σ g w x y z ≤ 1000000) (hb : rg (bfS σ 1 g)) (h9 : σ.1 1 9 = 2) : Ev X 0 0 (d + 4) mX4_weigh 0 [some (rv 53), some (rv 1), some (iv g), some (iv w), some (iv x), some (iv y), some (iv z), none, none, none] [] τ (QV (fun σ' => PlI σ σ' g w ∧ ∀ j, σ'.1 54 j = if j = hnS y z then max (τ.1 54 j) (ptM σ g w x y z) else τ.1 54 j)) := by
  have hF : Fr [37, 38, 39, 40, 41, 42, 53, 54] σ τ := hI.2.2.2
  have hoτ : ScOK τ 1 := ho.cg (sameSc_P hF)
  have e1 : τ.1 1 = σ.1 1 := (hF 1 (by decide)).1
  have e6 : τ.1 6 = σ.1 6 := (hF 6 (by decide)).1
  have h6 := ho.1
  have h7 := ho.2.1
  have h9r := ho.2.2.2.1
  have hgf : 0 ≤ σ.1 6 (g * 3 + w) ∧ σ.1 6 (g * 3 + w) ≤ 12 := ho.2.2.2.2.2.2.1 (g * 3 + w) (by omega) (by omega)
  obtain ⟨hb1, hb2⟩ := hb
  refine e_aload_n (pc' := 1) dX4_weigh_0 rfl rfl ?_
  refine e_getR (pc' := 4) dX4_weigh_1 rfl f_4_15 h_53 rfl ?_
  refine e_getR (pc' := 7) dX4_weigh_4 rfl f_4_46 h_39 rfl ?_
  refine e_astore (pc' := 9) (L' := [some (rv 53), some (rv 1), some (iv g), some (iv w), some (iv x), some (iv y), some (iv z), some (rv 37), none, none]) dX4_weigh_7 rfl (by decide) rfl ?_
  refine e_aload (pc' := 11) dX4_weigh_9 rfl rfl ?_
  refine e_aload_n (pc' := 12) dX4_weigh_11 rfl rfl ?_
  refine e_iload_n (pc' := 13) dX4_weigh_12 rfl rfl ?_
  refine e_iload_n (pc' := 14) dX4_weigh_13 rfl rfl ?_
  refine e_cv3v (pc' := 17) dX4_weigh_14 rfl k_4_50 h_37 rfl (Nat.le_of_ble_eq_true rfl) rfl rfl ⟨rfl, rfl⟩ ⟨Nat.zero_le _, Nat.zero_le _⟩ (s_seeAllBut_1 hoτ.1 hoτ.2.2.2.2.2.2.1 w g ⟨by omega, by omega⟩ ⟨by omega, by omega⟩) ?_
  rintro τ1 ⟨hS1, hG1⟩
  rw [e1, e6] at hS1
  have hF1 : Fr [37, 38, 39, 40, 41, 42, 53, 54] σ τ1 := hF.tr (hG1.mono (by decide))
  have g1 : Fr [37, 38] τ τ1 := hG1.mono (by decide)
  refine e_aload (pc' := 19) dX4_weigh_17 rfl rfl ?_
  refine e_aload_n (pc' := 20) dX4_weigh_19 rfl rfl ?_
  refine e_getR (pc' := 23) dX4_weigh_20 rfl f_4_39 h_1 rfl ?_
  refine e_iload_n (pc' := 24) dX4_weigh_23 rfl rfl ?_
  refine e_iconst (pc' := 25) dX4_weigh_24 rfl ?_
  refine e_imul (pc' := 26) dX4_weigh_25 rfl ?_
  refine e_iload_n (pc' := 27) dX4_weigh_26 rfl rfl ?_
  refine e_iadd (pc' := 28) dX4_weigh_27 rfl ?_
  refine e_iald (pc' := 29) (v := (σ.1 6 ((g * 3) + w))) dX4_weigh_28 rfl h_6 (by decide) (by omega) (by omega) ((congrFun (hF1 6 (by decide)).1 ((g * 3) + w)).trans rfl) ?_
  refine e_iload (pc' := 31) dX4_weigh_29 rfl rfl ?_
  refine e_isub (pc' := 32) dX4_weigh_31 rfl ?_
  refine e_iload (pc' := 34) dX4_weigh_32 rfl rfl ?_
  refine e_isub (pc' := 35) dX4_weigh_34 rfl ?_
  refine e_iload (pc' := 37) dX4_weigh_35 rfl rfl ?_
  refine e_isub (pc' := 38) dX4_weigh_37 rfl ?_
  refine e_cv1v (pc' := 41) dX4_weigh_38 rfl k_4_56 h_37 rfl (Nat.le_of_ble_eq_true rfl) rfl rfl ⟨rfl, rfl⟩ ⟨Nat.zero_le _, Nat.zero_le _⟩ (s_see (saI (σ.1 6) w g (σ.1 1 6)) ((((σ.1 6 ((g * 3) + w)) - x) - y) - z) hS1 (saS_ok _ _ _ _) ⟨by omega, by omega⟩) ?_
  rintro τ2 ⟨hS2, hG2⟩
  have hF2 : Fr [37, 38, 39, 40, 41, 42, 53, 54] σ τ2 := hF1.tr (hG2.mono (by decide))
  have g2 : Fr [37, 38] τ τ2 := g1.tr (hG2.mono (by decide))
  refine e_aload (pc' := 43) dX4_weigh_41 rfl rfl ?_
  refine e_iload (pc' := 45) dX4_weigh_43 rfl rfl ?_
  refine e_cv1v (pc' := 48) dX4_weigh_45 rfl k_4_56 h_37 rfl (Nat.le_of_ble_eq_true rfl) rfl rfl ⟨rfl, rfl⟩ ⟨Nat.zero_le _, Nat.zero_le _⟩ (s_see (seeS (saI (σ.1 6) w g (σ.1 1 6)) (σ.1 6 (g * 3 + w) - x - y - z)) x hS2 (seeS_ok (saS_ok _ _ _ _) _) ⟨by omega, by omega⟩) ?_
  rintro τ3 ⟨hS3, hG3⟩
  have hF3 : Fr [37, 38, 39, 40, 41, 42, 53, 54] σ τ3 := hF2.tr (hG3.mono (by decide))
  have g3 : Fr [37, 38] τ τ3 := g2.tr (hG3.mono (by decide))
  refine e_aload (pc' := 50) dX4_weigh_48 rfl rfl ?_
  refine e_iload (pc' := 52) dX4_weigh_50 rfl rfl ?_
  refine e_cv1v (pc' := 55) dX4_weigh_52 rfl k_4_56 h_37 rfl (Nat.le_of_ble_eq_true rfl) rfl rfl ⟨rfl, rfl⟩ ⟨Nat.zero_le _, Nat.zero_le _⟩ (s_see (seeS (seeS (saI (σ.1 6) w g (σ.1 1 6)) (σ.1 6 (g * 3 + w) - x - y - z)) x) y hS3 (seeS_ok (seeS_ok (saS_ok _ _ _ _) _) _) ⟨by omega, by omega⟩) ?_
  rintro τ4 ⟨hS4, hG4⟩
  have hF4 : Fr [37, 38, 39, 40, 41, 42, 53, 54] σ τ4 := hF3.tr (hG4.mono (by decide))
  have g4 : Fr [37, 38] τ τ4 := g3.tr (hG4.mono (by decide))
  refine e_aload (pc' := 57) dX4_weigh_55 rfl rfl ?_
  refine e_iload (pc' := 59) dX4_weigh_57 rfl rfl ?_
  refine e_cv1v (pc' := 62) dX4_weigh_59 rfl k_4_56 h_37 rfl (Nat.le_of_ble_eq_true rfl) rfl rfl ⟨rfl, rfl⟩ ⟨Nat.zero_le _, Nat.zero_le _⟩ (s_see (seeS (seeS (seeS (saI (σ.1 6) w g (σ.1 1 6)) (σ.1 6 (g * 3 + w) - x - y - z)) x) y) z hS4 (seeS_ok (seeS_ok (seeS_ok (saS_ok _ _ _ _) _) _) _) ⟨by omega, by omega⟩) ?_
  rintro τ5 ⟨hS5, hG5⟩
  have hF5 : Fr [37, 38, 39, 40, 41, 42, 53, 54] σ τ5 := hF4.tr (hG5.mono (by decide))
  have g5 : Fr [37, 38] τ τ5 := g4.tr (hG5.mono (by decide))
  refine e_aload_n (pc' := 63) dX4_weigh_62 rfl rfl ?_
  refine e_getR (pc' := 66) dX4_weigh_63 rfl f_4_15 h_53 rfl ?_
  refine e_getR (pc' := 69) dX4_weigh_66 rfl f_4_60 h_39 rfl ?_
  refine e_iload_n (pc' := 70) dX4_weigh_69 rfl rfl ?_
  refine e_aload (pc' := 72) dX4_weigh_70 rfl rfl ?_
  refine e_aload_n (pc' := 73) dX4_weigh_72 rfl rfl ?_
  refine e_getR (pc' := 76) dX4_weigh_73 rfl f_4_63 h_1 rfl ?_
  refine e_aload_n (pc' := 77) dX4_weigh_76 rfl rfl ?_
  refine e_getI (pc' := 80) (v := (σ.1 1 9)) dX4_weigh_77 rfl f_4_67 h_1 rfl ((congrFun (hF5 1 (by decide)).1 9).trans rfl) ?_
  refine e_aald (pc' := 81) (k := 14) dX4_weigh_80 rfl h_7 (by decide) (by decide) (by omega) (by omega) (by rw [h9]; rfl) ?_
  refine e_cv1i (pc' := 84) dX4_weigh_81 rfl k_4_70 h_37 rfl (Nat.le_of_ble_eq_true rfl) rfl rfl ⟨rfl, rfl⟩ ⟨Nat.zero_le _, Nat.zero_le _⟩ (s_told_1_2 (ho.cg (sameSc_P hF5)) ((congrFun (hF5 1 (by decide)).1 9).trans h9) (seeS (seeS (seeS (seeS (saI (σ.1 6) w g (σ.1 1 6)) (σ.1 6 (g * 3 + w) - x - y - z)) x) y) z) hS5 (sa5_R (by omega) _ _ _ _)) ?_
  rintro v6 τ6 ⟨hv6, hG6⟩
  rw [tlR_cg ho (sameSc_P hF5)] at hv6
  have hF6 : Fr [37, 38, 39, 40, 41, 42, 53, 54] σ τ6 := hF5.tr (hG6.mono (by decide))
  have g6 : Fr [37, 38] τ τ6 := g5.tr hG6
  refine e_iast (pc' := 85) dX4_weigh_84 rfl h_41 (by decide) (by omega) (by omega) ?_
  have hF7 : Fr [37, 38, 39, 40, 41, 42, 53, 54] σ (upI τ6 41 w v6) := fr_I hF6 (by decide)
  have ho7 : ScOK (upI τ6 41 w v6) 1 := ho.cg (sameSc_P hF7)
  have uu : ∀ v, 0 ≤ v → v < 3 → ((upI τ6 41 w v6)).1 41 v = wpS σ g w x y z v := by
    intro v a b
    show (if 41 = 41 ∧ v = w then v6 else τ6.1 41 v) = _
    unfold wpS
    by_cases hv : v = w
    · rw [if_pos ⟨rfl, hv⟩, if_pos hv]; exact hv6
    · rw [if_neg (fun q => hv q.2), if_neg hv, (g6 41 (by decide)).1]; exact hI.2.1 v a b hv
  have u0 := uu 0 (by decide) (by decide)
  have u1 := uu 1 (by decide) (by decide)
  have u2 := uu 2 (by decide) (by decide)
  refine e_aload_n (pc' := 86) dX4_weigh_85 rfl rfl ?_
  refine e_getR (pc' := 89) dX4_weigh_86 rfl f_4_15 h_53 rfl ?_
  refine e_aload_n (pc' := 90) dX4_weigh_89 rfl rfl ?_
  refine e_cv1v (pc' := 93) dX4_weigh_90 rfl k_4_74 h_39 rfl (Nat.le_of_ble_eq_true rfl) rfl rfl ⟨rfl, rfl⟩ ⟨Nat.zero_le _, Nat.zero_le _⟩ (s_partPurse_1 (σ := (upI τ6 41 w v6)) (by rw [u0]; exact wpS_rg _ _ _ _ _ _ _) (by rw [u1]; exact wpS_rg _ _ _ _ _ _ _) (by rw [u2]; exact wpS_rg _ _ _ _ _ _ _) ho7.2.2.2.2.1 ho7.2.2.2.2.2.1) ?_
  rintro τ8 ⟨h3, h4, hG8⟩
  have hF8 : Fr [37, 38, 39, 40, 41, 42, 53, 54] σ τ8 := hF7.tr (hG8.mono (by decide))
  have ho8 : ScOK τ8 1 := ho.cg (sameSc_P hF8)
  have ea := adS_cg (md := σ.1 1 11) (p := σ.1 1 10) (u := ((upI τ6 41 w v6)).1 41) (v := wpS σ g w x y z) u0 u1 u2
  rw [(hF7 1 (by decide)).1] at h3
  have er := adS_rg (md := σ.1 1 11) (p := σ.1 1 10) (u := wpS σ g w x y z) ho.2.2.2.2.1 (fun v _ _ => wpS_rg _ _ _ _ _ _ _)
  have k0 := h3.1.trans (ea 0 (by decide) (by decide))
  have k1 := h3.2.1.trans (ea 1 (by decide) (by decide))
  have k2 := h3.2.2.trans (ea 2 (by decide) (by decide))
  have j40 : τ8.1 40 = τ.1 40 := ((hG8 40 (by decide)).1).trans ((g6 40 (by decide)).1)
  have j0 : τ8.1 40 0 = gfS σ 1 0 := (congrFun j40 0).trans (hI.1 0 (by decide) (by decide))
  have j1 : τ8.1 40 1 = gfS σ 1 1 := (congrFun j40 1).trans (hI.1 1 (by decide) (by decide))
  have j2 : τ8.1 40 2 = gfS σ 1 2 := (congrFun j40 2).trans (hI.1 2 (by decide) (by decide))
  have o0 := gfS_rg ho 0 (by decide) (by decide)
  have o1 := gfS_rg ho 1 (by decide) (by decide)
  have o2 := gfS_rg ho 2 (by decide) (by decide)
  have r0 := er 0 (by decide) (by decide)
  have r1 := er 1 (by decide) (by decide)
  have r2 := er 2 (by decide) (by decide)
  have hq : ∀ w, 0 ≤ w → w < 3 → 0 ≤ τ8.1 40 w + τ8.1 42 w ∧ τ8.1 40 w + τ8.1 42 w ≤ 2000 := three_of (by rw [j0, k0]; omega) (by rw [j1, k1]; omega) (by rw [j2, k2]; omega)
  have hp8 : τ8.1 53 2 = bfS σ 1 g := (congrFun ((hG8 53 (by decide)).1.trans (g6 53 (by decide)).1) 2).trans hI.2.2.1
  have hk8 : ktO τ8 1 g = ktO σ 1 g := ktO_cg (sameSc_P hF8) g
  have h54 : τ8.1 54 = τ.1 54 := (hG8 54 (by decide)).1.trans (g6 54 (by decide)).1
  refine e_aload_n (pc' := 94) dX4_weigh_93 rfl rfl ?_
  refine e_getR (pc' := 97) dX4_weigh_94 rfl f_4_15 h_53 rfl ?_
  refine e_aload_n (pc' := 98) dX4_weigh_97 rfl rfl ?_
  refine e_iload_n (pc' := 99) dX4_weigh_98 rfl rfl ?_
  refine e_aload_n (pc' := 100) dX4_weigh_99 rfl rfl ?_
  refine e_iload_n (pc' := 101) dX4_weigh_100 rfl rfl ?_
  refine e_cv1i (pc' := 104) dX4_weigh_101 rfl k_4_25 h_1 rfl (Nat.le_of_ble_eq_true rfl) rfl rfl ⟨rfl, rfl⟩ ⟨Nat.zero_le _, Nat.zero_le _⟩ (s_keptBy_1 g (by omega) (by omega)) ?_
  intro r σ' hr; rw [hr.1, hr.2]; clear hr σ'
  rw [show τ8.1 2 g - gv (τ8.1 6) g = ktO σ 1 g from hk8]
  refine e_cv3i (pc' := 107) dX4_weigh_104 rfl k_4_31 h_39 rfl (Nat.le_of_ble_eq_true rfl) rfl rfl ⟨rfl, rfl⟩ ⟨Nat.zero_le _, Nat.zero_le _⟩ (s_haveOf_1 ho8 hq g (ktO σ 1 g) ⟨by omega, by omega⟩) ?_
  intro r σ' hr; rw [hr.1, hr.2]; clear hr σ'
  rw [show hvO τ8 1 (fun w => τ8.1 40 w + τ8.1 42 w) (ktO σ 1 g) g = ptM σ g w x y z + bfS σ 1 g from (hvO_cg (a' := fun v => gfS σ 1 v + adS (σ.1 1 11) (σ.1 1 10) (wpS σ g w x y z) v) (sameSc_P hF8) (by show τ8.1 40 0 + τ8.1 42 0 = _; rw [j0, k0]) (by show τ8.1 40 1 + τ8.1 42 1 = _; rw [j1, k1]) (by show τ8.1 40 2 + τ8.1 42 2 = _; rw [j2, k2]) _ _).trans (by unfold ptM; omega)]
  refine e_aload_n (pc' := 108) dX4_weigh_107 rfl rfl ?_
  refine e_getI (pc' := 111) (v := (bfS σ 1 g)) dX4_weigh_108 rfl f_4_35 h_53 rfl hp8 ?_
  refine e_isub (pc' := 112) dX4_weigh_111 rfl ?_
  refine e_istore (pc' := 114) (L' := [some (rv 53), some (rv 1), some (iv g), some (iv w), some (iv x), some (iv y), some (iv z), some (rv 37), some (iv ((ptM σ g w x y z + bfS σ 1 g) - (bfS σ 1 g))), none]) dX4_weigh_112 rfl (by decide) rfl ?_
  refine e_iload (pc' := 116) dX4_weigh_114 rfl rfl ?_
  refine e_ifI (pc' := 119) (t := 123) dX4_weigh_116 (by decide) rfl ⟨by first | omega | (have := hm 2 (by decide) (by decide); have := hm 3 (by decide) (by decide); have := hm 4 (by decide) (by decide); omega), by first | omega | (have := hm 2 (by decide) (by decide); have := hm 3 (by decide) (by decide); have := hm 4 (by decide) (by decide); omega)⟩ (fun (c2_1 : (z : Int) ≤ 0) => ?_) (fun (c2_1 : ¬ ((z : Int) ≤ 0)) => ?_)
  · refine e_iload (pc' := 125) dX4_weigh_123 rfl rfl ?_
    refine e_ifI (pc' := 128) (t := 132) dX4_weigh_125 (by decide) rfl ⟨by first | omega | (have := hm 2 (by decide) (by decide); have := hm 3 (by decide) (by decide); have := hm 4 (by decide) (by decide); omega), by first | omega | (have := hm 2 (by decide) (by decide); have := hm 3 (by decide) (by decide); have := hm 4 (by decide) (by decide); omega)⟩ (fun (c4_2 : (y : Int) ≤ 0) => ?_) (fun (c4_2 : ¬ ((y : Int) ≤ 0)) => ?_)
    · refine e_iconst (pc' := 133) dX4_weigh_132 rfl ?_
      refine e_istore (pc' := 135) (L' := [some (rv 53), some (rv 1), some (iv g), some (iv w), some (iv x), some (iv y), some (iv z), some (rv 37), some (iv ((ptM σ g w x y z + bfS σ 1 g) - (bfS σ 1 g))), some (iv 2)]) dX4_weigh_133 rfl (by decide) rfl ?_
      refine e_aload_n (pc' := 136) dX4_weigh_135 rfl rfl ?_
      refine e_getR (pc' := 139) dX4_weigh_136 rfl f_4_9 h_53 rfl ?_
      refine e_iload (pc' := 141) dX4_weigh_139 rfl rfl ?_
      refine e_aload_n (pc' := 142) dX4_weigh_141 rfl rfl ?_
      refine e_getR (pc' := 145) dX4_weigh_142 rfl f_4_9 h_53 rfl ?_
      refine e_iload (pc' := 147) dX4_weigh_145 rfl rfl ?_
      refine e_iald (pc' := 148) (v := ((τ.1 54) 2)) dX4_weigh_147 rfl h_54 (by decide) (by omega) (by omega) (congrFun h54 2) ?_
      refine e_iload (pc' := 150) dX4_weigh_148 rfl rfl ?_
      refine e_max (pc' := 153) dX4_weigh_150 rfl p_4_77 ⟨by first | omega | (have := hm 2 (by decide) (by decide); have := hm 3 (by decide) (by decide); have := hm 4 (by decide) (by decide); omega), by first | omega | (have := hm 2 (by decide) (by decide); have := hm 3 (by decide) (by decide); have := hm 4 (by decide) (by decide); omega)⟩ ⟨by first | omega | (have := hm 2 (by decide) (by decide); have := hm 3 (by decide) (by decide); have := hm 4 (by decide) (by decide); omega), by first | omega | (have := hm 2 (by decide) (by decide); have := hm 3 (by decide) (by decide); have := hm 4 (by decide) (by decide); omega)⟩ (Nat.le_of_ble_eq_true rfl) ⟨Nat.zero_le _, Nat.zero_le _⟩ ?_
      refine e_iast (pc' := 154) dX4_weigh_153 rfl h_54 (by decide) (by omega) (by omega) ?_
      exact e_vret dX4_weigh_154 rfl ⟨rfl, Nat.le_refl _⟩ (by
            have hn : hnS y z = 2 := by unfold hnS; first | rw [if_pos (by omega)] | (rw [if_neg (by omega)]; first | rw [if_pos (by omega)] | rw [if_neg (by omega)])
            refine ⟨rfl, ⟨fun v a b => (congrFun j40 v).trans (hI.1 v a b), fun v a b hv => ?_, hp8, fr_I hF8 (by decide)⟩, fun j => ?_⟩
            · show τ8.1 41 v = _
              rw [(hG8 41 (by decide)).1]
              show (if 41 = 41 ∧ v = w then v6 else τ6.1 41 v) = _
              rw [if_neg (fun q => hv q.2), (g6 41 (by decide)).1]; exact hI.2.1 v a b hv
            · rw [hn]
              show (if 54 = 54 ∧ j = 2 then max (τ.1 54 2) (ptM σ g w x y z + bfS σ 1 g - bfS σ 1 g) else τ8.1 54 j) = _
              by_cases hj : j = 2
              · rw [if_pos ⟨rfl, hj⟩, if_pos hj, show ptM σ g w x y z + bfS σ 1 g - bfS σ 1 g = ptM σ g w x y z by omega, hj]
              · rw [if_neg (fun q => hj q.2), if_neg hj, h54])
    · refine e_iconst (pc' := 129) dX4_weigh_128 rfl ?_
      refine e_goto (pc' := 133) dX4_weigh_129 (by decide) ?_
      refine e_istore (pc' := 135) (L' := [some (rv 53), some (rv 1), some (iv g), some (iv w), some (iv x), some (iv y), some (iv z), some (rv 37), some (iv ((ptM σ g w x y z + bfS σ 1 g) - (bfS σ 1 g))), some (iv 3)]) dX4_weigh_133 rfl (by decide) rfl ?_
      refine e_aload_n (pc' := 136) dX4_weigh_135 rfl rfl ?_
      refine e_getR (pc' := 139) dX4_weigh_136 rfl f_4_9 h_53 rfl ?_
      refine e_iload (pc' := 141) dX4_weigh_139 rfl rfl ?_
      refine e_aload_n (pc' := 142) dX4_weigh_141 rfl rfl ?_
      refine e_getR (pc' := 145) dX4_weigh_142 rfl f_4_9 h_53 rfl ?_
      refine e_iload (pc' := 147) dX4_weigh_145 rfl rfl ?_
      refine e_iald (pc' := 148) (v := ((τ.1 54) 3)) dX4_weigh_147 rfl h_54 (by decide) (by omega) (by omega) (congrFun h54 3) ?_
      refine e_iload (pc' := 150) dX4_weigh_148 rfl rfl ?_
      refine e_max (pc' := 153) dX4_weigh_150 rfl p_4_77 ⟨by first | omega | (have := hm 2 (by decide) (by decide); have := hm 3 (by decide) (by decide); have := hm 4 (by decide) (by decide); omega), by first | omega | (have := hm 2 (by decide) (by decide); have := hm 3 (by decide) (by decide); have := hm 4 (by decide) (by decide); omega)⟩ ⟨by first | omega | (have := hm 2 (by decide) (by decide); have := hm 3 (by decide) (by decide); have := hm 4 (by decide) (by decide); omega), by first | omega | (have := hm 2 (by decide) (by decide); have := hm 3 (by decide) (by decide); have := hm 4 (by decide) (by decide); omega)⟩ (Nat.le_of_ble_eq_true rfl) ⟨Nat.zero_le _, Nat.zero_le _⟩ ?_
      refine e_iast (pc' := 154) dX4_weigh_153 rfl h_54 (by decide) (by omega) (by omega) ?_
      exact e_vret dX4_weigh_154 rfl ⟨rfl, Nat.le_refl _⟩ (by
            have hn : hnS y z = 3 := by unfold hnS; first | rw [if_pos (by omega)] | (rw [if_neg (by omega)]; first | rw [if_pos (by omega)] | rw [if_neg (by omega)])
            refine ⟨rfl, ⟨fun v a b => (congrFun j40 v).trans (hI.1 v a b), fun v a b hv => ?_, hp8, fr_I hF8 (by decide)⟩, fun j => ?_⟩
            · show τ8.1 41 v = _
              rw [(hG8 41 (by decide)).1]
              show (if 41 = 41 ∧ v = w then v6 else τ6.1 41 v) = _
              rw [if_neg (fun q => hv q.2), (g6 41 (by decide)).1]; exact hI.2.1 v a b hv
            · rw [hn]
              show (if 54 = 54 ∧ j = 3 then max (τ.1 54 3) (ptM σ g w x y z + bfS σ 1 g - bfS σ 1 g) else τ8.1 54 j) = _
              by_cases hj : j = 3
              · rw [if_pos ⟨rfl, hj⟩, if_pos hj, show ptM σ g w x y z + bfS σ 1 g - bfS σ 1 g = ptM σ g w x y z by omega, hj]
              · rw [if_neg (fun q => hj q.2), if_neg hj, h54])
  · refine e_iconst (pc' := 120) dX4_weigh_119 rfl ?_
    refine e_goto (pc' := 133) dX4_weigh_120 (by decide) ?_
    refine e_istore (pc' := 135) (L' := [some (rv 53), some (rv 1), some (iv g), some (iv w), some (iv x), some (iv y), some (iv z), some (rv 37), some (iv ((ptM σ g w x y z + bfS σ 1 g) - (bfS σ 1 g))), some (iv 4)]) dX4_weigh_133 rfl (by decide) rfl ?_
    refine e_aload_n (pc' := 136) dX4_weigh_135 rfl rfl ?_
    refine e_getR (pc' := 139) dX4_weigh_136 rfl f_4_9 h_53 rfl ?_
    refine e_iload (pc' := 141) dX4_weigh_139 rfl rfl ?_
    refine e_aload_n (pc' := 142) dX4_weigh_141 rfl rfl ?_
    refine e_getR (pc' := 145) dX4_weigh_142 rfl f_4_9 h_53 rfl ?_
    refine e_iload (pc' := 147) dX4_weigh_145 rfl rfl ?_
    refine e_iald (pc' := 148) (v := ((τ.1 54) 4)) dX4_weigh_147 rfl h_54 (by decide) (by omega) (by omega) (congrFun h54 4) ?_
    refine e_iload (pc' := 150) dX4_weigh_148 rfl rfl ?_
    refine e_max (pc' := 153) dX4_weigh_150 rfl p_4_77 ⟨by first | omega | (have := hm 2 (by decide) (by decide); have := hm 3 (by decide) (by decide); have := hm 4 (by decide) (by decide); omega), by first | omega | (have := hm 2 (by decide) (by decide); have := hm 3 (by decide) (by decide); have := hm 4 (by decide) (by decide); omega)⟩ ⟨by first | omega | (have := hm 2 (by decide) (by decide); have := hm 3 (by decide) (by decide); have := hm 4 (by decide) (by decide); omega), by first | omega | (have := hm 2 (by decide) (by decide); have := hm 3 (by decide) (by decide); have := hm 4 (by decide) (by decide); omega)⟩ (Nat.le_of_ble_eq_true rfl) ⟨Nat.zero_le _, Nat.zero_le _⟩ ?_
    refine e_iast (pc' := 154) dX4_weigh_153 rfl h_54 (by decide) (by omega) (by omega) ?_
    exact e_vret dX4_weigh_154 rfl ⟨rfl, Nat.le_refl _⟩ (by
            have hn : hnS y z = 4 := by unfold hnS; first | rw [if_pos (by omega)] | (rw [if_neg (by omega)]; first | rw [if_pos (by omega)] | rw [if_neg (by omega)])
            refine ⟨rfl, ⟨fun v a b => (congrFun j40 v).trans (hI.1 v a b), fun v a b hv => ?_, hp8, fr_I hF8 (by decide)⟩, fun j => ?_⟩
            · show τ8.1 41 v = _
              rw [(hG8 41 (by decide)).1]
              show (if 41 = 41 ∧ v = w then v6 else τ6.1 41 v) = _
              rw [if_neg (fun q => hv q.2), (g6 41 (by decide)).1]; exact hI.2.1 v a b hv
            · rw [hn]
              show (if 54 = 54 ∧ j = 4 then max (τ.1 54 4) (ptM σ g w x y z + bfS σ 1 g - bfS σ 1 g) else τ8.1 54 j) = _
              by_cases hj : j = 4
              · rw [if_pos ⟨rfl, hj⟩, if_pos hj, show ptM σ g w x y z + bfS σ 1 g - bfS σ 1 g = ptM σ g w x y z by omega, hj]
              · rw [if_neg (fun q => hj q.2), if_neg hj, h54])

theorem s_pweigh {X : AX} {d : Nat} {σ τ : SG} (ho : ScOK σ 1) (g w x y z : Int) (hg : 0 ≤ g ∧ g < σ.1 1 6) (hw : 0 ≤ w ∧ w < σ.1 1 7) (hx : 0 ≤ x ∧ x ≤ 12) (hy : 0 ≤ y ∧ y ≤ 12) (hz : 0 ≤ z ∧ z ≤ 12) (hI : PlI σ τ g w) (hm : ∀ j, 0 ≤ j → j < 5 → 0 ≤ τ.1 54 j ∧ τ.1 54 j ≤ 1000000) (hV : -1000000 ≤ ptM σ g w x y z ∧ ptM σ g w x y z ≤ 1000000) (hb : rg (bfS σ 1 g)) : Ev X 0 0 (d + 4) mX4_weigh 0 [some (rv 53), some (rv 1), some (iv g), some (iv w), some (iv x), some (iv y), some (iv z), none, none, none] [] τ (QV (fun σ' => PlI σ σ' g w ∧ ∀ j, σ'.1 54 j = if j = hnS y z then max (τ.1 54 j) (ptM σ g w x y z) else τ.1 54 j)) := by
  have h9 : σ.1 1 9 = 0 ∨ σ.1 1 9 = 1 ∨ σ.1 1 9 = 2 := by have := ho.2.2.2.1; omega
  rcases h9 with h9 | h9 | h9
  · exact l_pweigh_0 ho g w x y z hg hw hx hy hz hI hm hV hb h9
  · exact l_pweigh_1 ho g w x y z hg hw hx hy hz hI hm hV hb h9
  · exact l_pweigh_2 ho g w x y z hg hw hx hy hz hI hm hV hb h9
