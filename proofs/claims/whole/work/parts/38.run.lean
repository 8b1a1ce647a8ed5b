/-- a giver gives as it is best for him -/
def gU (ρ : SG) (b : Nat) (g : Int) (t : BR) : SG := upC ρ (b + 5) (fun j => if g * 3 ≤ j ∧ j < g * 3 + 3 then rowW t.2.1 t.2.2.1 t.2.2.2 (j - g * 3) else ρ.1 (b + 5) j)
/-- turns of the givers from g on, n of them: the scene, how many stood still, rest -/
def inS (b : Nat) (G : Int) : Nat → SG → Int → Int → SG × Int × Bool
  | 0, ρ, _, st => (ρ, st, false)
  | n + 1, ρ, g, st => if bfS ρ b g < (beS ρ b g).1 then (if 0 = G then (gU ρ b g (beS ρ b g), 0, true) else inS b G n (gU ρ b g (beS ρ b g)) (g + 1) 0) else (if st + 1 = G then (ρ, st + 1, true) else inS b G n ρ (g + 1) (st + 1))
/-- n rounds more -/
def ouS (b : Nat) (G : Int) : Nat → SG → Int → Int → (Int → Int64) → SG × Int
  | 0, ρ, _, _, _ => (ρ, 2)
  | n + 1, ρ, st, r, h => if (inS b G G.toNat ρ 0 st).2.2 = true then ((inS b G G.toNat ρ 0 st).1, 0) else if wbI (updA h r (pkS ((inS b G G.toNat ρ 0 st).1.1 (b + 5)) 15)) (pkS ((inS b G G.toNat ρ 0 st).1.1 (b + 5)) 15) r = true then ((inS b G G.toNat ρ 0 st).1, 1) else ouS b G n (inS b G G.toNat ρ 0 st).1 (inS b G G.toNat ρ 0 st).2.1 (r + 1) (updA h r (pkS ((inS b G G.toNat ρ 0 st).1.1 (b + 5)) 15))
/-- scenes from which turns can be worked out, whoever's turn it is -/
def GdI (Good : SG → Prop) (b : Nat) (G : Int) : Prop := (∀ ρ, Good ρ → ScOK ρ b ∧ ρ.1 b 6 = G ∧ ∀ g, 0 ≤ g → g < G → ChOK ρ b g ∧ -1 ≤ (beS ρ b g).1 ∧ (beS ρ b g).1 ≤ 1000000) ∧ ∀ ρ g, Good ρ → 0 ≤ g → g < G → Good (gU ρ b g (beS ρ b g))
theorem same_gU {ρ τ : SG} {b : Nat} {g : Int} {t : BR} (h : SameSc ρ τ b) (h0 : τ.1 46 0 = t.2.1) (h1 : τ.1 46 1 = t.2.2.1) (h2 : τ.1 46 2 = t.2.2.2) : SameSc (gU ρ b g t) (upC τ (b + 5) (cpyA (τ.1 46) (τ.1 (b + 5)) 0 (g * 3) 3)) b := by
  intro k hk1 hk2
  by_cases hk : k = b + 5
  · subst hk
    funext j
    show (if b + 5 = b + 5 then cpyA (τ.1 46) (τ.1 (b + 5)) 0 (g * 3) 3 j else τ.1 (b + 5) j) = (if b + 5 = b + 5 then (if g * 3 ≤ j ∧ j < g * 3 + 3 then rowW t.2.1 t.2.2.1 t.2.2.2 (j - g * 3) else ρ.1 (b + 5) j) else ρ.1 (b + 5) j)
    rw [if_pos rfl, if_pos rfl]
    unfold cpyA
    by_cases hj : g * 3 ≤ j ∧ j < g * 3 + 3
    · rw [if_pos hj, if_pos hj]
      have : j - g * 3 = 0 ∨ j - g * 3 = 1 ∨ j - g * 3 = 2 := by omega
      rcases this with e | e | e <;> rw [e]
      · exact h0
      · exact h1
      · exact h2
    · rw [if_neg hj, if_neg hj, h (b + 5) (by omega) (by omega)]
  · funext j
    show (if k = b + 5 then _ else τ.1 k j) = (if k = b + 5 then _ else ρ.1 k j)
    rw [if_neg hk, if_neg hk, h k hk1 hk2]

theorem ouS_s (b : Nat) (G : Int) (n : Nat) (ρ : SG) (st r : Int) (h : Int → Int64) : ouS b G (n + 1) ρ st r h = (if (inS b G G.toNat ρ 0 st).2.2 = true then ((inS b G G.toNat ρ 0 st).1, 0) else if wbI (updA h r (pkS ((inS b G G.toNat ρ 0 st).1.1 (b + 5)) 15)) (pkS ((inS b G G.toNat ρ 0 st).1.1 (b + 5)) 15) r = true then ((inS b G G.toNat ρ 0 st).1, 1) else ouS b G n (inS b G G.toNat ρ 0 st).1 (inS b G G.toNat ρ 0 st).2.1 (r + 1) (updA h r (pkS ((inS b G G.toNat ρ 0 st).1.1 (b + 5)) 15))) := rfl
theorem upJ_fn {τ : SG} {q : Nat} {i : Int} {v : Int64} {h : Int → Int64} (hh : τ.2 q = h) : (upJ τ q i v).2 q = updA h i v := by
  subst hh
  funext j
  simp only [upJ, updA, true_and]
theorem inS_st (b : Nat) (G : Int) : ∀ (n : Nat) (ρ : SG) (i st : Int), 0 ≤ st ∧ (st < G ∨ st = 0) → (n = 0 ∨ 0 < G) → 0 ≤ (inS b G n ρ i st).2.1 ∧ ((inS b G n ρ i st).2.2 = false → (inS b G n ρ i st).2.1 < G ∨ (inS b G n ρ i st).2.1 = 0)
  | 0, ρ, i, st, h, _ => ⟨h.1, fun _ => h.2⟩
  | n + 1, ρ, i, st, h, hG => by
    unfold inS
    split
    · split
      · exact ⟨Int.le_refl _, fun q => by cases q⟩
      · exact inS_st b G n _ _ _ ⟨by omega, by omega⟩ (by omega)
    · split
      · exact ⟨by show 0 ≤ st + 1; omega, fun q => by cases q⟩
      · next hne => exact inS_st b G n _ _ _ ⟨by omega, by omega⟩ (by omega)

set_option maxHeartbeats 4000000 in
set_option maxRecDepth 100000 in
theorem l_turn_1 {X : AX} {d : Nat} {σ : SG} {Good : SG → Prop} {G : Int} (hg0 : 0 ≤ G ∧ G ≤ 5) (hGd : GdI Good 1 G) (Wf : SG × Int) (r : Int) (hr : 1 ≤ r ∧ r ≤ 40) (h : Int → Int64) : ∀ (n : Nat) (i st : Int) (ρ τ : SG), 0 ≤ i → i + n = G → SameSc ρ τ 1 → Good ρ → Fr [37, 38, 39, 40, 41, 42, 43, 44, 45, 46, 48, 6] σ τ → τ.2 48 = h → 0 ≤ st ∧ (st < G ∨ st = 0) → ((inS 1 G n ρ i st).2.2 = true → Wf = ((inS 1 G n ρ i st).1, 0)) → ((inS 1 G n ρ i st).2.2 = false → ∀ (τ' : SG) (y4 : Option AV), SameSc (inS 1 G n ρ i st).1 τ' 1 → Good (inS 1 G n ρ i st).1 → Fr [37, 38, 39, 40, 41, 42, 43, 44, 45, 46, 48, 6] σ τ' → τ'.2 48 = h → Ev X 0 0 (d + 5) mX6_run 100 [some (rv 47), some (rv 1), some (iv ((inS 1 G n ρ i st).2.1)), some (iv r), y4] [] τ' (QI (fun z σ' => Wf.2 = z ∧ SameSc Wf.1 σ' 1 ∧ Fr [37, 38, 39, 40, 41, 42, 43, 44, 45, 46, 48, 6] σ σ'))) → Ev X 0 0 (d + 5) mX6_run 23 [some (rv 47), some (rv 1), some (iv st), some (iv r), some (iv i)] [] τ (QI (fun z σ' => Wf.2 = z ∧ SameSc Wf.1 σ' 1 ∧ Fr [37, 38, 39, 40, 41, 42, 43, 44, 45, 46, 48, 6] σ σ')) := by
  intro n
  induction n using Nat.strongRecOn with
  | ind n ih =>
  intro i st ρ τ hi hn hS hgood hF hh hst hc1 hc2
  have hgd := hGd.1 ρ hgood
  have hoτ : ScOK τ 1 := hgd.1.cg hS
  have hgv : τ.1 1 6 = G := (hS 1 (by omega) (by omega) ▸ hgd.2.1 : τ.1 1 6 = G)
  refine e_iload (pc' := 25) dX6_run_23 rfl rfl ?_
  refine e_aload_n (pc' := 26) dX6_run_25 rfl rfl ?_
  refine e_getI (pc' := 29) (v := G) dX6_run_26 rfl f_6_25 h_1 rfl hgv ?_
  refine e_icmpI (pc' := 32) (t := 100) dX6_run_29 (by decide) rfl (by first | exact hsr | exact ⟨by omega, by omega⟩) (by first | exact hsr | exact ⟨by omega, by omega⟩) (fun (c2_1 : G ≤ (i : Int)) => ?_) (fun (c2_1 : ¬ (G ≤ (i : Int))) => ?_)
  · match n, hn, hc1, hc2 with
    | 0, hn, hc1, hc2 => exact hc2 rfl τ _ hS hgood hF hh
    | n + 1, hn, hc1, hc2 => omega
  · have hch := hgd.2.2 i (by omega) (by omega)
    refine e_iinc (pc' := 35) (L' := [some (rv 47), some (rv 1), some (iv (st + 1)), some (iv r), some (iv i)]) dX6_run_32 rfl rfl (by decide) rfl ?_
    refine e_aload_n (pc' := 36) dX6_run_35 rfl rfl ?_
    refine e_getR (pc' := 39) dX6_run_36 rfl f_6_15 h_47 rfl ?_
    refine e_aload_n (pc' := 40) dX6_run_39 rfl rfl ?_
    refine e_iload (pc' := 42) dX6_run_40 rfl rfl ?_
    refine e_cv2v (pc' := 45) dX6_run_42 rfl k_6_29 h_43 rfl (Nat.le_of_ble_eq_true rfl) rfl rfl ⟨rfl, rfl⟩ ⟨Nat.zero_le _, Nat.zero_le _⟩ (s_best_1 hoτ i ⟨by omega, by omega⟩ (hch.1.cg hgd.1 hS)) ?_
    rintro τ1 ⟨hb1, h51, hG1⟩
    rw [beS_cg hgd.1 hS] at hb1
    rw [bfS_cg hgd.1 hS] at h51
    have hm1 : τ1.1 43 4 = (beS ρ 1 i).1 := congrArg Prod.fst hb1
    have hrb := hch.1.2.2
    have hS1 : SameSc ρ τ1 1 := fun k p q => ((sameScA_1 hG1) k p q).trans (hS k p q)
    have hF1 : Fr [37, 38, 39, 40, 41, 42, 43, 44, 45, 46, 48, 6] σ τ1 := hF.tr (hG1.mono (by decide))
    have hgv1 : τ1.1 1 6 = G := (hS1 1 (by omega) (by omega) ▸ hgd.2.1 : τ1.1 1 6 = G)
    refine e_aload_n (pc' := 46) dX6_run_45 rfl rfl ?_
    refine e_getR (pc' := 49) dX6_run_46 rfl f_6_15 h_47 rfl ?_
    refine e_getI (pc' := 52) (v := ((beS ρ 1 i).1)) dX6_run_49 rfl f_6_35 h_43 rfl hm1 ?_
    refine e_aload_n (pc' := 53) dX6_run_52 rfl rfl ?_
    refine e_getR (pc' := 56) dX6_run_53 rfl f_6_15 h_47 rfl ?_
    refine e_getI (pc' := 59) (v := (bfS ρ 1 i)) dX6_run_56 rfl f_6_38 h_43 rfl h51 ?_
    refine e_icmpI (pc' := 62) (t := 84) dX6_run_59 (by decide) rfl (by first | exact hsr | exact ⟨by omega, by omega⟩) (by first | exact hsr | exact ⟨by omega, by omega⟩) (fun (c4_2 : (((beS ρ 1 i).1) : Int) ≤ (bfS ρ 1 i)) => ?_) (fun (c4_2 : ¬ ((((beS ρ 1 i).1) : Int) ≤ (bfS ρ 1 i))) => ?_)
    · refine e_iload_n (pc' := 85) dX6_run_84 rfl rfl ?_
      refine e_aload_n (pc' := 86) dX6_run_85 rfl rfl ?_
      refine e_getI (pc' := 89) (v := G) dX6_run_86 rfl f_6_25 h_1 rfl hgv1 ?_
      refine e_icmpI (pc' := 92) (t := 94) dX6_run_89 (by decide) rfl (by first | exact hsr | exact ⟨by omega, by omega⟩) (by first | exact hsr | exact ⟨by omega, by omega⟩) (fun (c6_3 : ((st + 1) : Int) ≠ G) => ?_) (fun (c6_3 : ¬ (((st + 1) : Int) ≠ G)) => ?_)
      · refine e_iinc (pc' := 97) (L' := [some (rv 47), some (rv 1), some (iv (st + 1)), some (iv r), some (iv (i + 1))]) dX6_run_94 rfl rfl (by decide) rfl ?_
        refine e_goto (pc' := 23) dX6_run_97 (by decide) ?_
        match n, hn, hc1, hc2 with
        | 0, hn, hc1, hc2 => omega
        | n + 1, hn, hc1, hc2 =>
          have ei : inS 1 G (n + 1) ρ i st = (if st + 1 = G then (ρ, st + 1, true) else inS 1 G n ρ (i + 1) (st + 1)) := if_neg (by omega)
          rw [if_neg (by omega)] at ei
          rw [ei] at hc1 hc2
          refine ih n (by omega) (i + 1) _ _ _ (by omega) (by omega) ?_ ?_ ?_ ?_ (by omega) hc1 hc2
          · exact hS1
          · exact hgood
          · exact hF1
          · exact (hG1 48 (by decide)).2.trans hh
      · refine e_iconst (pc' := 93) dX6_run_92 rfl ?_
        exact e_iret dX6_run_93 rfl ⟨rfl, Nat.le_refl _⟩ (by
    match n, hn, hc1, hc2 with
    | 0, hn, hc1, hc2 => omega
    | n + 1, hn, hc1, hc2 =>
      have ei : inS 1 G (n + 1) ρ i st = (if st + 1 = G then (ρ, st + 1, true) else inS 1 G n ρ (i + 1) (st + 1)) := if_neg (by omega)
      rw [if_pos (by omega)] at ei
      rw [ei] at hc1
      have hw := hc1 rfl
      rw [hw]
      exact ⟨_, rfl, rfl, hS1, hF1⟩)
    · refine e_aload_n (pc' := 63) dX6_run_62 rfl rfl ?_
      refine e_getR (pc' := 66) dX6_run_63 rfl f_6_15 h_47 rfl ?_
      refine e_getR (pc' := 69) dX6_run_66 rfl f_6_41 h_43 rfl ?_
      refine e_iconst (pc' := 70) dX6_run_69 rfl ?_
      refine e_aload_n (pc' := 71) dX6_run_70 rfl rfl ?_
      refine e_getR (pc' := 74) dX6_run_71 rfl f_6_45 h_1 rfl ?_
      refine e_iload (pc' := 76) dX6_run_74 rfl rfl ?_
      refine e_iconst (pc' := 77) dX6_run_76 rfl ?_
      refine e_imul (pc' := 78) dX6_run_77 rfl ?_
      refine e_iconst (pc' := 79) dX6_run_78 rfl ?_
      refine e_copy (pc' := 82) dX6_run_79 rfl p_6_48 h_46 h_6 ⟨by omega, by omega, by omega, by omega, by omega, by decide, by decide⟩ (Nat.le_of_ble_eq_true rfl) ?_
      have hSU : SameSc (gU ρ 1 i (beS ρ 1 i)) (upC τ1 6 (cpyA (τ1.1 46) (τ1.1 6) 0 (i * 3) 3)) 1 := same_gU hS1 (congrArg (fun t : BR => t.2.1) hb1) (congrArg (fun t : BR => t.2.2.1) hb1) (congrArg (fun t : BR => t.2.2.2) hb1)
      have hFU : Fr [37, 38, 39, 40, 41, 42, 43, 44, 45, 46, 48, 6] σ (upC τ1 6 (cpyA (τ1.1 46) (τ1.1 6) 0 (i * 3) 3)) := fr_C hF1 (by decide)
      have hgU : Good (gU ρ 1 i (beS ρ 1 i)) := hGd.2 ρ i hgood (by omega) (by omega)
      have hhU : ((upC τ1 6 (cpyA (τ1.1 46) (τ1.1 6) 0 (i * 3) 3))).2 48 = h := (hG1 48 (by decide)).2.trans hh
      refine e_iconst (pc' := 83) dX6_run_82 rfl ?_
      refine e_istore_n (pc' := 84) (L' := [some (rv 47), some (rv 1), some (iv 0), some (iv r), some (iv i)]) dX6_run_83 rfl (by decide) rfl ?_
      refine e_iload_n (pc' := 85) dX6_run_84 rfl rfl ?_
      refine e_aload_n (pc' := 86) dX6_run_85 rfl rfl ?_
      refine e_getI (pc' := 89) (v := G) dX6_run_86 rfl f_6_25 h_1 rfl hgv1 ?_
      refine e_icmpI (pc' := 92) (t := 94) dX6_run_89 (by decide) rfl ⟨by omega, by omega⟩ (by first | exact hsr | exact ⟨by omega, by omega⟩) (fun (c6_3 : (0 : Int) ≠ G) => ?_) (fun (c6_3 : ¬ ((0 : Int) ≠ G)) => ?_)
      · refine e_iinc (pc' := 97) (L' := [some (rv 47), some (rv 1), some (iv 0), some (iv r), some (iv (i + 1))]) dX6_run_94 rfl rfl (by decide) rfl ?_
        refine e_goto (pc' := 23) dX6_run_97 (by decide) ?_
        match n, hn, hc1, hc2 with
        | 0, hn, hc1, hc2 => omega
        | n + 1, hn, hc1, hc2 =>
          have ei : inS 1 G (n + 1) ρ i st = (if 0 = G then (gU ρ 1 i (beS ρ 1 i), 0, true) else inS 1 G n (gU ρ 1 i (beS ρ 1 i)) (i + 1) 0) := if_pos (by omega)
          rw [if_neg (by omega)] at ei
          rw [ei] at hc1 hc2
          refine ih n (by omega) (i + 1) _ _ _ (by omega) (by omega) ?_ ?_ ?_ ?_ (by omega) hc1 hc2
          · exact hSU
          · exact hgU
          · exact hFU
          · exact hhU
      · refine e_iconst (pc' := 93) dX6_run_92 rfl ?_
        exact e_iret dX6_run_93 rfl ⟨rfl, Nat.le_refl _⟩ (by
    match n, hn, hc1, hc2 with
    | 0, hn, hc1, hc2 => omega
    | n + 1, hn, hc1, hc2 =>
      have ei : inS 1 G (n + 1) ρ i st = (if 0 = G then (gU ρ 1 i (beS ρ 1 i), 0, true) else inS 1 G n (gU ρ 1 i (beS ρ 1 i)) (i + 1) 0) := if_pos (by omega)
      rw [if_pos (by omega)] at ei
      rw [ei] at hc1
      have hw := hc1 rfl
      rw [hw]
      exact ⟨_, rfl, rfl, hSU, hFU⟩)

set_option maxHeartbeats 4000000 in
set_option maxRecDepth 100000 in
theorem l_run_1 {X : AX} {d : Nat} {σ : SG} {Good : SG → Prop} {G : Int} (hg0 : 0 ≤ G ∧ G ≤ 5) (hGd : GdI Good 1 G) (Wf : SG × Int) : ∀ (m : Nat) (r st : Int) (h : Int → Int64) (ρ τ : SG) (x4 : Option AV), 1 ≤ r → r + m = 41 → SameSc ρ τ 1 → Good ρ → Fr [37, 38, 39, 40, 41, 42, 43, 44, 45, 46, 48, 6] σ τ → τ.2 48 = h → 0 ≤ st ∧ (st < G ∨ st = 0) → Wf = ouS 1 G m ρ st r h → Ev X 0 0 (d + 5) mX6_run 14 [some (rv 47), some (rv 1), some (iv st), some (iv r), x4] [] τ (QI (fun z σ' => Wf.2 = z ∧ SameSc Wf.1 σ' 1 ∧ Fr [37, 38, 39, 40, 41, 42, 43, 44, 45, 46, 48, 6] σ σ')) := by
  intro m
  induction m using Nat.strongRecOn with
  | ind m ih =>
  intro r st h ρ τ x4 hr0 hm hS hgood hF hh hst hW
  have hr : 1 ≤ r ∧ r ≤ 40 ∨ r = 41 := by omega
  refine e_iload_n (pc' := 15) dX6_run_14 rfl rfl ?_
  refine e_bipush (pc' := 17) (z := 40) dX6_run_15 rfl (by decide) ?_
  refine e_icmpI (pc' := 20) (t := 126) dX6_run_17 (by decide) rfl ⟨by omega, by omega⟩ ⟨by omega, by omega⟩ (fun (c2_1 : 40 < (r : Int)) => ?_) (fun (c2_1 : ¬ (40 < (r : Int))) => ?_)
  · refine e_iconst (pc' := 127) dX6_run_126 rfl ?_
    exact e_iret dX6_run_127 rfl ⟨rfl, Nat.le_refl _⟩ ⟨_, rfl, by match m, hm, hW with
    | 0, hm, hW => rw [hW]; rfl
    | m + 1, hm, hW => omega, by match m, hm, hW with
    | 0, hm, hW => rw [hW]; exact hS
    | m + 1, hm, hW => omega, hF⟩
  · refine e_iconst (pc' := 21) dX6_run_20 rfl ?_
    refine e_istore (pc' := 23) (L' := [some (rv 47), some (rv 1), some (iv st), some (iv r), some (iv 0)]) dX6_run_21 rfl (by decide) rfl ?_
    match m, hm, hW with
    | 0, hm, hW => omega
    | m + 1, hm, hW =>
      refine l_turn_1 hg0 hGd Wf r (by omega) h G.toNat 0 st ρ τ (by omega) (by omega) hS hgood hF hh hst (fun ht => ?_) (fun hfalse τ' y4 hS' hg' hF' hh' => ?_)
      · rw [hW, ouS_s, if_pos ht]
      · have hgd' := hGd.1 _ hg'
        refine e_aload_n (pc' := 101) dX6_run_100 rfl rfl ?_
        refine e_getR (pc' := 104) dX6_run_101 rfl f_6_9 h_47 rfl ?_
        refine e_iload_n (pc' := 105) dX6_run_104 rfl rfl ?_
        refine e_aload_n (pc' := 106) dX6_run_105 rfl rfl ?_
        refine e_cv0j (pc' := 109) dX6_run_106 rfl k_6_19 h_1 rfl (Nat.le_of_ble_eq_true rfl) rfl rfl ⟨rfl, rfl⟩ ⟨Nat.zero_le _, Nat.zero_le _⟩ (s_packed_1 (hgd'.1.cg hS')) ?_
        intro z σ' hr; rw [hr.1, hr.2]; clear hr σ'
        rw [hS' 6 (by omega) (by omega)]
        refine e_last (pc' := 110) dX6_run_109 rfl h_48 (by decide) (by omega) (by omega) ?_
        refine e_aload_n (pc' := 111) dX6_run_110 rfl rfl ?_
        refine e_iload_n (pc' := 112) dX6_run_111 rfl rfl ?_
        refine e_cv1i (pc' := 115) dX6_run_112 rfl k_6_54 h_47 rfl (Nat.le_of_ble_eq_true rfl) rfl rfl ⟨rfl, rfl⟩ ⟨Nat.zero_le _, Nat.zero_le _⟩ (s_wasBefore (σ := (upJ τ' 48 r (pkS ((inS 1 G G.toNat ρ 0 st).1.1 6) 15))) r (by omega)) ?_
        intro z σ' hz; rw [hz.1, hz.2]; clear hz σ'
        rw [show ((upJ τ' 48 r (pkS ((inS 1 G G.toNat ρ 0 st).1.1 6) 15))).2 48 = updA h r (pkS ((inS 1 G G.toNat ρ 0 st).1.1 6) 15) from upJ_fn hh', show updA h r (pkS ((inS 1 G G.toNat ρ 0 st).1.1 6) 15) r = pkS ((inS 1 G G.toNat ρ 0 st).1.1 6) 15 from if_pos rfl]
        refine e_ifI (pc' := 118) (t := 120) dX6_run_115 (by decide) rfl ⟨by first | omega | (unfold b2i; split <;> omega), by first | omega | (unfold b2i; split <;> omega)⟩ (fun (c0_1 : ((b2i (wbI (updA h r (pkS ((inS 1 G G.toNat ρ 0 st).1.1 6) 15)) (pkS ((inS 1 G G.toNat ρ 0 st).1.1 6) 15) r)) : Int) = 0) => ?_) (fun (c0_1 : ¬ (((b2i (wbI (updA h r (pkS ((inS 1 G G.toNat ρ 0 st).1.1 6) 15)) (pkS ((inS 1 G G.toNat ρ 0 st).1.1 6) 15) r)) : Int) = 0)) => ?_)
        · have hwb : wbI (updA h r (pkS ((inS 1 G G.toNat ρ 0 st).1.1 6) 15)) (pkS ((inS 1 G G.toNat ρ 0 st).1.1 6) 15) r = false := by cases hq : wbI (updA h r (pkS ((inS 1 G G.toNat ρ 0 st).1.1 6) 15)) (pkS ((inS 1 G G.toNat ρ 0 st).1.1 6) 15) r <;> first | rfl | (rw [hq] at c0_1; exact absurd c0_1 (by decide)) | (rw [hq] at c0_1; exact absurd rfl c0_1)
          refine e_iinc (pc' := 123) (L' := [some (rv 47), some (rv 1), some (iv ((inS 1 G G.toNat ρ 0 st).2.1)), some (iv (r + 1)), y4]) dX6_run_120 rfl rfl (by decide) rfl ?_
          refine e_goto (pc' := 14) dX6_run_123 (by decide) ?_
          exact ih m (by omega) _ _ _ _ _ _ (by omega) (by omega) hS' hg' (fr_J hF' (by decide)) (upJ_fn hh') ⟨(inS_st _ _ _ _ _ _ hst (by omega)).1, (inS_st _ _ _ _ _ _ hst (by omega)).2 hfalse⟩ (by rw [hW, ouS_s, if_neg (by rw [hfalse]; decide), if_neg (by rw [show wbI (updA h r (pkS ((inS 1 G G.toNat ρ 0 st).1.1 (1 + 5)) 15)) (pkS ((inS 1 G G.toNat ρ 0 st).1.1 (1 + 5)) 15) r = false from hwb]; decide)])
        · have hwb : wbI (updA h r (pkS ((inS 1 G G.toNat ρ 0 st).1.1 6) 15)) (pkS ((inS 1 G G.toNat ρ 0 st).1.1 6) 15) r = true := by cases hq : wbI (updA h r (pkS ((inS 1 G G.toNat ρ 0 st).1.1 6) 15)) (pkS ((inS 1 G G.toNat ρ 0 st).1.1 6) 15) r <;> first | rfl | (rw [hq] at c0_1; exact absurd c0_1 (by decide)) | (rw [hq] at c0_1; exact absurd rfl c0_1)
          refine e_iconst (pc' := 119) dX6_run_118 rfl ?_
          exact e_iret dX6_run_119 rfl ⟨rfl, Nat.le_refl _⟩ ⟨_, rfl, by rw [hW, ouS_s, if_neg (by rw [hfalse]; decide), if_pos (show wbI (updA h r (pkS ((inS 1 G G.toNat ρ 0 st).1.1 (1 + 5)) 15)) (pkS ((inS 1 G G.toNat ρ 0 st).1.1 (1 + 5)) 15) r = true from hwb)], by rw [hW, ouS_s, if_neg (by rw [hfalse]; decide), if_pos (show wbI (updA h r (pkS ((inS 1 G G.toNat ρ 0 st).1.1 (1 + 5)) 15)) (pkS ((inS 1 G G.toNat ρ 0 st).1.1 (1 + 5)) 15) r = true from hwb)]; exact hS', fr_J hF' (by decide)⟩

set_option maxHeartbeats 4000000 in
set_option maxRecDepth 100000 in
theorem l_turn_17 {X : AX} {d : Nat} {σ : SG} {Good : SG → Prop} {G : Int} (hg0 : 0 ≤ G ∧ G ≤ 5) (hGd : GdI Good 17 G) (Wf : SG × Int) (r : Int) (hr : 1 ≤ r ∧ r ≤ 40) (h : Int → Int64) : ∀ (n : Nat) (i st : Int) (ρ τ : SG), 0 ≤ i → i + n = G → SameSc ρ τ 17 → Good ρ → Fr [37, 38, 39, 40, 41, 42, 43, 44, 45, 46, 48, 22] σ τ → τ.2 48 = h → 0 ≤ st ∧ (st < G ∨ st = 0) → ((inS 17 G n ρ i st).2.2 = true → Wf = ((inS 17 G n ρ i st).1, 0)) → ((inS 17 G n ρ i st).2.2 = false → ∀ (τ' : SG) (y4 : Option AV), SameSc (inS 17 G n ρ i st).1 τ' 17 → Good (inS 17 G n ρ i st).1 → Fr [37, 38, 39, 40, 41, 42, 43, 44, 45, 46, 48, 22] σ τ' → τ'.2 48 = h → Ev X 0 0 (d + 5) mX6_run 100 [some (rv 47), some (rv 17), some (iv ((inS 17 G n ρ i st).2.1)), some (iv r), y4] [] τ' (QI (fun z σ' => Wf.2 = z ∧ SameSc Wf.1 σ' 17 ∧ Fr [37, 38, 39, 40, 41, 42, 43, 44, 45, 46, 48, 22] σ σ'))) → Ev X 0 0 (d + 5) mX6_run 23 [some (rv 47), some (rv 17), some (iv st), some (iv r), some (iv i)] [] τ (QI (fun z σ' => Wf.2 = z ∧ SameSc Wf.1 σ' 17 ∧ Fr [37, 38, 39, 40, 41, 42, 43, 44, 45, 46, 48, 22] σ σ')) := by
  intro n
  induction n using Nat.strongRecOn with
  | ind n ih =>
  intro i st ρ τ hi hn hS hgood hF hh hst hc1 hc2
  have hgd := hGd.1 ρ hgood
  have hoτ : ScOK τ 17 := hgd.1.cg hS
  have hgv : τ.1 17 6 = G := (hS 17 (by omega) (by omega) ▸ hgd.2.1 : τ.1 17 6 = G)
  refine e_iload (pc' := 25) dX6_run_23 rfl rfl ?_
  refine e_aload_n (pc' := 26) dX6_run_25 rfl rfl ?_
  refine e_getI (pc' := 29) (v := G) dX6_run_26 rfl f_6_25 h_17 rfl hgv ?_
  refine e_icmpI (pc' := 32) (t := 100) dX6_run_29 (by decide) rfl (by first | exact hsr | exact ⟨by omega, by omega⟩) (by first | exact hsr | exact ⟨by omega, by omega⟩) (fun (c2_1 : G ≤ (i : Int)) => ?_) (fun (c2_1 : ¬ (G ≤ (i : Int))) => ?_)
  · match n, hn, hc1, hc2 with
    | 0, hn, hc1, hc2 => exact hc2 rfl τ _ hS hgood hF hh
    | n + 1, hn, hc1, hc2 => omega
  · have hch := hgd.2.2 i (by omega) (by omega)
    refine e_iinc (pc' := 35) (L' := [some (rv 47), some (rv 17), some (iv (st + 1)), some (iv r), some (iv i)]) dX6_run_32 rfl rfl (by decide) rfl ?_
    refine e_aload_n (pc' := 36) dX6_run_35 rfl rfl ?_
    refine e_getR (pc' := 39) dX6_run_36 rfl f_6_15 h_47 rfl ?_
    refine e_aload_n (pc' := 40) dX6_run_39 rfl rfl ?_
    refine e_iload (pc' := 42) dX6_run_40 rfl rfl ?_
    refine e_cv2v (pc' := 45) dX6_run_42 rfl k_6_29 h_43 rfl (Nat.le_of_ble_eq_true rfl) rfl rfl ⟨rfl, rfl⟩ ⟨Nat.zero_le _, Nat.zero_le _⟩ (s_best_17 hoτ i ⟨by omega, by omega⟩ (hch.1.cg hgd.1 hS)) ?_
    rintro τ1 ⟨hb1, h51, hG1⟩
    rw [beS_cg hgd.1 hS] at hb1
    rw [bfS_cg hgd.1 hS] at h51
    have hm1 : τ1.1 43 4 = (beS ρ 17 i).1 := congrArg Prod.fst hb1
    have hrb := hch.1.2.2
    have hS1 : SameSc ρ τ1 17 := fun k p q => ((sameScA_17 hG1) k p q).trans (hS k p q)
    have hF1 : Fr [37, 38, 39, 40, 41, 42, 43, 44, 45, 46, 48, 22] σ τ1 := hF.tr (hG1.mono (by decide))
    have hgv1 : τ1.1 17 6 = G := (hS1 17 (by omega) (by omega) ▸ hgd.2.1 : τ1.1 17 6 = G)
    refine e_aload_n (pc' := 46) dX6_run_45 rfl rfl ?_
    refine e_getR (pc' := 49) dX6_run_46 rfl f_6_15 h_47 rfl ?_
    refine e_getI (pc' := 52) (v := ((beS ρ 17 i).1)) dX6_run_49 rfl f_6_35 h_43 rfl hm1 ?_
    refine e_aload_n (pc' := 53) dX6_run_52 rfl rfl ?_
    refine e_getR (pc' := 56) dX6_run_53 rfl f_6_15 h_47 rfl ?_
    refine e_getI (pc' := 59) (v := (bfS ρ 17 i)) dX6_run_56 rfl f_6_38 h_43 rfl h51 ?_
    refine e_icmpI (pc' := 62) (t := 84) dX6_run_59 (by decide) rfl (by first | exact hsr | exact ⟨by omega, by omega⟩) (by first | exact hsr | exact ⟨by omega, by omega⟩) (fun (c4_2 : (((beS ρ 17 i).1) : Int) ≤ (bfS ρ 17 i)) => ?_) (fun (c4_2 : ¬ ((((beS ρ 17 i).1) : Int) ≤ (bfS ρ 17 i))) => ?_)
    · refine e_iload_n (pc' := 85) dX6_run_84 rfl rfl ?_
      refine e_aload_n (pc' := 86) dX6_run_85 rfl rfl ?_
      refine e_getI (pc' := 89) (v := G) dX6_run_86 rfl f_6_25 h_17 rfl hgv1 ?_
      refine e_icmpI (pc' := 92) (t := 94) dX6_run_89 (by decide) rfl (by first | exact hsr | exact ⟨by omega, by omega⟩) (by first | exact hsr | exact ⟨by omega, by omega⟩) (fun (c6_3 : ((st + 1) : Int) ≠ G) => ?_) (fun (c6_3 : ¬ (((st + 1) : Int) ≠ G)) => ?_)
      · refine e_iinc (pc' := 97) (L' := [some (rv 47), some (rv 17), some (iv (st + 1)), some (iv r), some (iv (i + 1))]) dX6_run_94 rfl rfl (by decide) rfl ?_
        refine e_goto (pc' := 23) dX6_run_97 (by decide) ?_
        match n, hn, hc1, hc2 with
        | 0, hn, hc1, hc2 => omega
        | n + 1, hn, hc1, hc2 =>
          have ei : inS 17 G (n + 1) ρ i st = (if st + 1 = G then (ρ, st + 1, true) else inS 17 G n ρ (i + 1) (st + 1)) := if_neg (by omega)
          rw [if_neg (by omega)] at ei
          rw [ei] at hc1 hc2
          refine ih n (by omega) (i + 1) _ _ _ (by omega) (by omega) ?_ ?_ ?_ ?_ (by omega) hc1 hc2
          · exact hS1
          · exact hgood
          · exact hF1
          · exact (hG1 48 (by decide)).2.trans hh
      · refine e_iconst (pc' := 93) dX6_run_92 rfl ?_
        exact e_iret dX6_run_93 rfl ⟨rfl, Nat.le_refl _⟩ (by
    match n, hn, hc1, hc2 with
    | 0, hn, hc1, hc2 => omega
    | n + 1, hn, hc1, hc2 =>
      have ei : inS 17 G (n + 1) ρ i st = (if st + 1 = G then (ρ, st + 1, true) else inS 17 G n ρ (i + 1) (st + 1)) := if_neg (by omega)
      rw [if_pos (by omega)] at ei
      rw [ei] at hc1
      have hw := hc1 rfl
      rw [hw]
      exact ⟨_, rfl, rfl, hS1, hF1⟩)
    · refine e_aload_n (pc' := 63) dX6_run_62 rfl rfl ?_
      refine e_getR (pc' := 66) dX6_run_63 rfl f_6_15 h_47 rfl ?_
      refine e_getR (pc' := 69) dX6_run_66 rfl f_6_41 h_43 rfl ?_
      refine e_iconst (pc' := 70) dX6_run_69 rfl ?_
      refine e_aload_n (pc' := 71) dX6_run_70 rfl rfl ?_
      refine e_getR (pc' := 74) dX6_run_71 rfl f_6_45 h_17 rfl ?_
      refine e_iload (pc' := 76) dX6_run_74 rfl rfl ?_
      refine e_iconst (pc' := 77) dX6_run_76 rfl ?_
      refine e_imul (pc' := 78) dX6_run_77 rfl ?_
      refine e_iconst (pc' := 79) dX6_run_78 rfl ?_
      refine e_copy (pc' := 82) dX6_run_79 rfl p_6_48 h_46 h_22 ⟨by omega, by omega, by omega, by omega, by omega, by decide, by decide⟩ (Nat.le_of_ble_eq_true rfl) ?_
      have hSU : SameSc (gU ρ 17 i (beS ρ 17 i)) (upC τ1 22 (cpyA (τ1.1 46) (τ1.1 22) 0 (i * 3) 3)) 17 := same_gU hS1 (congrArg (fun t : BR => t.2.1) hb1) (congrArg (fun t : BR => t.2.2.1) hb1) (congrArg (fun t : BR => t.2.2.2) hb1)
      have hFU : Fr [37, 38, 39, 40, 41, 42, 43, 44, 45, 46, 48, 22] σ (upC τ1 22 (cpyA (τ1.1 46) (τ1.1 22) 0 (i * 3) 3)) := fr_C hF1 (by decide)
      have hgU : Good (gU ρ 17 i (beS ρ 17 i)) := hGd.2 ρ i hgood (by omega) (by omega)
      have hhU : ((upC τ1 22 (cpyA (τ1.1 46) (τ1.1 22) 0 (i * 3) 3))).2 48 = h := (hG1 48 (by decide)).2.trans hh
      refine e_iconst (pc' := 83) dX6_run_82 rfl ?_
      refine e_istore_n (pc' := 84) (L' := [some (rv 47), some (rv 17), some (iv 0), some (iv r), some (iv i)]) dX6_run_83 rfl (by decide) rfl ?_
      refine e_iload_n (pc' := 85) dX6_run_84 rfl rfl ?_
      refine e_aload_n (pc' := 86) dX6_run_85 rfl rfl ?_
      refine e_getI (pc' := 89) (v := G) dX6_run_86 rfl f_6_25 h_17 rfl hgv1 ?_
      refine e_icmpI (pc' := 92) (t := 94) dX6_run_89 (by decide) rfl ⟨by omega, by omega⟩ (by first | exact hsr | exact ⟨by omega, by omega⟩) (fun (c6_3 : (0 : Int) ≠ G) => ?_) (fun (c6_3 : ¬ ((0 : Int) ≠ G)) => ?_)
      · refine e_iinc (pc' := 97) (L' := [some (rv 47), some (rv 17), some (iv 0), some (iv r), some (iv (i + 1))]) dX6_run_94 rfl rfl (by decide) rfl ?_
        refine e_goto (pc' := 23) dX6_run_97 (by decide) ?_
        match n, hn, hc1, hc2 with
        | 0, hn, hc1, hc2 => omega
        | n + 1, hn, hc1, hc2 =>
          have ei : inS 17 G (n + 1) ρ i st = (if 0 = G then (gU ρ 17 i (beS ρ 17 i), 0, true) else inS 17 G n (gU ρ 17 i (beS ρ 17 i)) (i + 1) 0) := if_pos (by omega)
          rw [if_neg (by omega)] at ei
          rw [ei] at hc1 hc2
          refine ih n (by omega) (i + 1) _ _ _ (by omega) (by omega) ?_ ?_ ?_ ?_ (by omega) hc1 hc2
          · exact hSU
          · exact hgU
          · exact hFU
          · exact hhU
      · refine e_iconst (pc' := 93) dX6_run_92 rfl ?_
        exact e_iret dX6_run_93 rfl ⟨rfl, Nat.le_refl _⟩ (by
    match n, hn, hc1, hc2 with
    | 0, hn, hc1, hc2 => omega
    | n + 1, hn, hc1, hc2 =>
      have ei : inS 17 G (n + 1) ρ i st = (if 0 = G then (gU ρ 17 i (beS ρ 17 i), 0, true) else inS 17 G n (gU ρ 17 i (beS ρ 17 i)) (i + 1) 0) := if_pos (by omega)
      rw [if_pos (by omega)] at ei
      rw [ei] at hc1
      have hw := hc1 rfl
      rw [hw]
      exact ⟨_, rfl, rfl, hSU, hFU⟩)

set_option maxHeartbeats 4000000 in
set_option maxRecDepth 100000 in
theorem l_run_17 {X : AX} {d : Nat} {σ : SG} {Good : SG → Prop} {G : Int} (hg0 : 0 ≤ G ∧ G ≤ 5) (hGd : GdI Good 17 G) (Wf : SG × Int) : ∀ (m : Nat) (r st : Int) (h : Int → Int64) (ρ τ : SG) (x4 : Option AV), 1 ≤ r → r + m = 41 → SameSc ρ τ 17 → Good ρ → Fr [37, 38, 39, 40, 41, 42, 43, 44, 45, 46, 48, 22] σ τ → τ.2 48 = h → 0 ≤ st ∧ (st < G ∨ st = 0) → Wf = ouS 17 G m ρ st r h → Ev X 0 0 (d + 5) mX6_run 14 [some (rv 47), some (rv 17), some (iv st), some (iv r), x4] [] τ (QI (fun z σ' => Wf.2 = z ∧ SameSc Wf.1 σ' 17 ∧ Fr [37, 38, 39, 40, 41, 42, 43, 44, 45, 46, 48, 22] σ σ')) := by
  intro m
  induction m using Nat.strongRecOn with
  | ind m ih =>
  intro r st h ρ τ x4 hr0 hm hS hgood hF hh hst hW
  have hr : 1 ≤ r ∧ r ≤ 40 ∨ r = 41 := by omega
  refine e_iload_n (pc' := 15) dX6_run_14 rfl rfl ?_
  refine e_bipush (pc' := 17) (z := 40) dX6_run_15 rfl (by decide) ?_
  refine e_icmpI (pc' := 20) (t := 126) dX6_run_17 (by decide) rfl ⟨by omega, by omega⟩ ⟨by omega, by omega⟩ (fun (c2_1 : 40 < (r : Int)) => ?_) (fun (c2_1 : ¬ (40 < (r : Int))) => ?_)
  · refine e_iconst (pc' := 127) dX6_run_126 rfl ?_
    exact e_iret dX6_run_127 rfl ⟨rfl, Nat.le_refl _⟩ ⟨_, rfl, by match m, hm, hW with
    | 0, hm, hW => rw [hW]; rfl
    | m + 1, hm, hW => omega, by match m, hm, hW with
    | 0, hm, hW => rw [hW]; exact hS
    | m + 1, hm, hW => omega, hF⟩
  · refine e_iconst (pc' := 21) dX6_run_20 rfl ?_
    refine e_istore (pc' := 23) (L' := [some (rv 47), some (rv 17), some (iv st), some (iv r), some (iv 0)]) dX6_run_21 rfl (by decide) rfl ?_
    match m, hm, hW with
    | 0, hm, hW => omega
    | m + 1, hm, hW =>
      refine l_turn_17 hg0 hGd Wf r (by omega) h G.toNat 0 st ρ τ (by omega) (by omega) hS hgood hF hh hst (fun ht => ?_) (fun hfalse τ' y4 hS' hg' hF' hh' => ?_)
      · rw [hW, ouS_s, if_pos ht]
      · have hgd' := hGd.1 _ hg'
        refine e_aload_n (pc' := 101) dX6_run_100 rfl rfl ?_
        refine e_getR (pc' := 104) dX6_run_101 rfl f_6_9 h_47 rfl ?_
        refine e_iload_n (pc' := 105) dX6_run_104 rfl rfl ?_
        refine e_aload_n (pc' := 106) dX6_run_105 rfl rfl ?_
        refine e_cv0j (pc' := 109) dX6_run_106 rfl k_6_19 h_17 rfl (Nat.le_of_ble_eq_true rfl) rfl rfl ⟨rfl, rfl⟩ ⟨Nat.zero_le _, Nat.zero_le _⟩ (s_packed_17 (hgd'.1.cg hS')) ?_
        intro z σ' hr; rw [hr.1, hr.2]; clear hr σ'
        rw [hS' 22 (by omega) (by omega)]
        refine e_last (pc' := 110) dX6_run_109 rfl h_48 (by decide) (by omega) (by omega) ?_
        refine e_aload_n (pc' := 111) dX6_run_110 rfl rfl ?_
        refine e_iload_n (pc' := 112) dX6_run_111 rfl rfl ?_
        refine e_cv1i (pc' := 115) dX6_run_112 rfl k_6_54 h_47 rfl (Nat.le_of_ble_eq_true rfl) rfl rfl ⟨rfl, rfl⟩ ⟨Nat.zero_le _, Nat.zero_le _⟩ (s_wasBefore (σ := (upJ τ' 48 r (pkS ((inS 17 G G.toNat ρ 0 st).1.1 22) 15))) r (by omega)) ?_
        intro z σ' hz; rw [hz.1, hz.2]; clear hz σ'
        rw [show ((upJ τ' 48 r (pkS ((inS 17 G G.toNat ρ 0 st).1.1 22) 15))).2 48 = updA h r (pkS ((inS 17 G G.toNat ρ 0 st).1.1 22) 15) from upJ_fn hh', show updA h r (pkS ((inS 17 G G.toNat ρ 0 st).1.1 22) 15) r = pkS ((inS 17 G G.toNat ρ 0 st).1.1 22) 15 from if_pos rfl]
        refine e_ifI (pc' := 118) (t := 120) dX6_run_115 (by decide) rfl ⟨by first | omega | (unfold b2i; split <;> omega), by first | omega | (unfold b2i; split <;> omega)⟩ (fun (c0_1 : ((b2i (wbI (updA h r (pkS ((inS 17 G G.toNat ρ 0 st).1.1 22) 15)) (pkS ((inS 17 G G.toNat ρ 0 st).1.1 22) 15) r)) : Int) = 0) => ?_) (fun (c0_1 : ¬ (((b2i (wbI (updA h r (pkS ((inS 17 G G.toNat ρ 0 st).1.1 22) 15)) (pkS ((inS 17 G G.toNat ρ 0 st).1.1 22) 15) r)) : Int) = 0)) => ?_)
        · have hwb : wbI (updA h r (pkS ((inS 17 G G.toNat ρ 0 st).1.1 22) 15)) (pkS ((inS 17 G G.toNat ρ 0 st).1.1 22) 15) r = false := by cases hq : wbI (updA h r (pkS ((inS 17 G G.toNat ρ 0 st).1.1 22) 15)) (pkS ((inS 17 G G.toNat ρ 0 st).1.1 22) 15) r <;> first | rfl | (rw [hq] at c0_1; exact absurd c0_1 (by decide)) | (rw [hq] at c0_1; exact absurd rfl c0_1)
          refine e_iinc (pc' := 123) (L' := [some (rv 47), some (rv 17), some (iv ((inS 17 G G.toNat ρ 0 st).2.1)), some (iv (r + 1)), y4]) dX6_run_120 rfl rfl (by decide) rfl ?_
          refine e_goto (pc' := 14) dX6_run_123 (by decide) ?_
          exact ih m (by omega) _ _ _ _ _ _ (by omega) (by omega) hS' hg' (fr_J hF' (by decide)) (upJ_fn hh') ⟨(inS_st _ _ _ _ _ _ hst (by omega)).1, (inS_st _ _ _ _ _ _ hst (by omega)).2 hfalse⟩ (by rw [hW, ouS_s, if_neg (by rw [hfalse]; decide), if_neg (by rw [show wbI (updA h r (pkS ((inS 17 G G.toNat ρ 0 st).1.1 (17 + 5)) 15)) (pkS ((inS 17 G G.toNat ρ 0 st).1.1 (17 + 5)) 15) r = false from hwb]; decide)])
        · have hwb : wbI (updA h r (pkS ((inS 17 G G.toNat ρ 0 st).1.1 22) 15)) (pkS ((inS 17 G G.toNat ρ 0 st).1.1 22) 15) r = true := by cases hq : wbI (updA h r (pkS ((inS 17 G G.toNat ρ 0 st).1.1 22) 15)) (pkS ((inS 17 G G.toNat ρ 0 st).1.1 22) 15) r <;> first | rfl | (rw [hq] at c0_1; exact absurd c0_1 (by decide)) | (rw [hq] at c0_1; exact absurd rfl c0_1)
          refine e_iconst (pc' := 119) dX6_run_118 rfl ?_
          exact e_iret dX6_run_119 rfl ⟨rfl, Nat.le_refl _⟩ ⟨_, rfl, by rw [hW, ouS_s, if_neg (by rw [hfalse]; decide), if_pos (show wbI (updA h r (pkS ((inS 17 G G.toNat ρ 0 st).1.1 (17 + 5)) 15)) (pkS ((inS 17 G G.toNat ρ 0 st).1.1 (17 + 5)) 15) r = true from hwb)], by rw [hW, ouS_s, if_neg (by rw [hfalse]; decide), if_pos (show wbI (updA h r (pkS ((inS 17 G G.toNat ρ 0 st).1.1 (17 + 5)) 15)) (pkS ((inS 17 G G.toNat ρ 0 st).1.1 (17 + 5)) 15) r = true from hwb)]; exact hS', fr_J hF' (by decide)⟩
