/-! what the reference holds of a scene; adding up -/
def MrP (N : Int → Int) (ρ : SG) (b : Nat) : Prop := (N 180 = ρ.1 b 6 ∧ N 181 = ρ.1 b 7 ∧ N 53 = ρ.1 b 8) ∧ (∀ j, 0 ≤ j → j < 5 → N j = ρ.1 (b + 1) j) ∧ (∀ j, 0 ≤ j → j < 3 → N (50 + j) = ρ.1 (b + 2) j) ∧ ∀ j, 0 ≤ j → j < 15 → N (5 + 2 * j) = ρ.1 (b + 3) j ∧ N (6 + 2 * j) = ρ.1 (b + 4) j ∧ N (35 + j) = ρ.1 (b + 5) j
def MrR (N : Int → Int) (ρ : SG) (b : Nat) : Prop := (N 54 = ρ.1 b 9 ∧ N 55 = ρ.1 b 10 ∧ N 56 = ρ.1 b 11) ∧ ∀ u, 0 ≤ u → u ≤ 2 → RuI ρ (rcN b u) ∧ N (57 + 41 * u) = ρ.1 (rcN b u) 2 ∧ ∀ k, 0 ≤ k → k < ρ.1 (rcN b u) 2 → N (57 + 41 * u + 1 + k) = ρ.1 (rcN b u + 1) k
def tlU (ρ : SG) (r : Nat) (t : ST) : Int := tlS t (ρ.1 r 4) (ρ.1 (r + 2)) (ρ.1 r 3)
theorem tlU_rg (ρ : SG) (r : Nat) (t : ST) : 0 ≤ tlU ρ r t ∧ tlU ρ r t ≤ 99 := tlS_rg _ _ _ _
theorem tlR_U (ρ : SG) (b : Nat) (t : ST) : tlR ρ b t = tlU ρ (rcN b (ρ.1 b 9)) t := rfl
theorem tlU_eq {ρ : SG} {r : Nat} (h : RuI ρ r) : ∃ nn : Nat, nn ≤ 40 ∧ ρ.1 r 2 = (nn : Int) ∧ (∀ j, 0 ≤ j → j < 40 → chr7 (ρ.1 (r + 1) j)) ∧ ∀ t, tlU ρ r t = if (fnS (ρ.1 (r + 1)) nn).2.2.2.2.2 = -1 then clS (popV (evL t (fnS (ρ.1 (r + 1)) nn).1)) else 0 := by
  obtain ⟨nn, h1, h2, h3, h4, h5, h6⟩ := h
  refine ⟨nn, h1, h2, h3, fun t => ?_⟩
  unfold tlU tlS
  rw [h5, evI_evL t _ h4 h6]
theorem s_m_rule {X : AX} {d : Nat} {σ ρ : SG} {b : Nat} (hM : MrR (σ.1 89) ρ b) (t : ST) (m : Nat) (hm : m ≤ 16) (hH : HdI σ m t) (hR : RtI σ) (u : Int) (hu : 0 ≤ u ∧ u ≤ 2) : Ev X 0 0 (d + 5) mX11_addedBy 0 [some (rv 88), some (iv u), none, none, none, none, none, none, none, none, none, none, none, none] [] σ (QI (fun r σ' => r = tlU ρ (rcN b u) t ∧ RtI σ' ∧ Fr [88, 92, 93, 94, 96] σ σ' ∧ K88 σ σ')) := by
  have h := hM.2 u hu.1 hu.2
  obtain ⟨nn, h1, h2, h3, h4⟩ := tlU_eq h.1
  rw [h4 t]
  exact s_m_addedBy t m hm hH hR u nn (ρ.1 (rcN b u + 1)) hu h1 (h.2.1.trans h2) (fun k a c => ⟨h.2.2 k a (by omega), h3 k a (by omega)⟩)
/-- hands to a work: each giver's gift, one's by parts -/
def hnT (f : Int → Int) (hg hw : Int) (pt : Int → Int) (w : Int) : Nat → ST
  | 0 => st0
  | n + 1 => if (n : Int) = hg ∧ w = hw then seeS (seeS (seeS (seeS (hnT f hg hw pt w n) (pt 0)) (pt 1)) (pt 2)) (pt 3) else seeS (hnT f hg hw pt w n) (f ((n : Int) * 3 + w))
theorem hnT_s (f : Int → Int) (hg hw : Int) (pt : Int → Int) (w : Int) {g : Int} (h : 0 ≤ g) : hnT f hg hw pt w (g + 1).toNat = if g = hg ∧ w = hw then seeS (seeS (seeS (seeS (hnT f hg hw pt w g.toNat) (pt 0)) (pt 1)) (pt 2)) (pt 3) else seeS (hnT f hg hw pt w g.toNat) (f (g * 3 + w)) := by
  have e1 : (g + 1).toNat = g.toNat + 1 := by omega
  rw [e1]
  show (if ((g.toNat : Nat) : Int) = hg ∧ w = hw then _ else seeS (hnT f hg hw pt w g.toNat) (f (((g.toNat : Nat) : Int) * 3 + w))) = _
  rw [Int.toNat_of_nonneg h]
def uaS (ρ : SG) (b : Nat) (hg hw : Int) (pt : Int → Int) (w : Int) : Int := if w < ρ.1 b 7 then tlR ρ b (hnT (ρ.1 (b + 5)) hg hw pt w (ρ.1 b 6).toNat) else 0
theorem uaS_rg (ρ : SG) (b : Nat) (hg hw : Int) (pt : Int → Int) (w : Int) : 0 ≤ uaS ρ b hg hw pt w ∧ uaS ρ b hg hw pt w ≤ 99 := by
  unfold uaS
  split
  · exact tlR_rg _ _ _
  · decide
def gaS (ρ : SG) (b : Nat) (w g : Int) : Int := smI (fun g => ρ.1 (b + 5) (g * 3 + w)) g

set_option maxHeartbeats 4000000 in
set_option maxRecDepth 100000 in
theorem l_addG {X : AX} {d : Nat} {σ : SG} {Q : Option AV → SG → Prop} (ρ : SG) (b : Nat) (ho : ScOK ρ b) (hP : MrP (σ.1 89) ρ b) (pl hg hw : Int) (hpl : (pl = 1 ∧ ∀ t, tlR ρ b t = 0) ∨ (pl = 0 ∧ MrR (σ.1 89) ρ b)) (hple : σ.1 88 18 = pl) (hge : σ.1 88 19 = hg) (hwe : σ.1 88 20 = hw) (hgr : -1 ≤ hg ∧ hg ≤ 4) (hwr : -1 ≤ hw ∧ hw ≤ 2) (hpt : ∀ i, 0 ≤ i → i < 4 → 0 ≤ σ.1 100 i ∧ σ.1 100 i ≤ 12) (hpu : 0 ≤ σ.1 89 55 ∧ σ.1 89 55 ≤ 200) (w al : Int) (hw0 : 0 ≤ w ∧ w < (ρ.1 b 7)) (hK : ∀ (τ : SG) (m : Nat) (y3 y4 : Option AV), m ≤ 16 → ((∀ v, 0 ≤ v → v < w → τ.1 99 v = gaS ρ b v (ρ.1 b 6) ∧ τ.1 97 v = (uaS ρ b hg hw (σ.1 100)) v ∧ τ.1 98 v = (uaS ρ b hg hw (σ.1 100)) v) ∧ RtI τ ∧ Fr [88, 92, 93, 94, 95, 96, 97, 98, 99] σ τ ∧ KA σ τ) → τ.1 99 w = gaS ρ b w (ρ.1 b 6) → HdI τ m (hnT (ρ.1 (b + 5)) hg hw (σ.1 100) w (ρ.1 b 6).toNat) → Ev X 0 0 (d + 6) mX11_addUp 110 [some (rv 88), some (iv al), some (iv w), y3, y4] [] τ Q) : ∀ (k : Nat) (g : Int) (m : Nat) (τ : SG) (x4 : Option AV), 0 ≤ g → g ≤ (ρ.1 b 6) → (ρ.1 b 6) - g < k → (m : Int) ≤ g + 3 → (g ≤ hg → (m : Int) = g) → ((∀ v, 0 ≤ v → v < w → τ.1 99 v = gaS ρ b v (ρ.1 b 6) ∧ τ.1 97 v = (uaS ρ b hg hw (σ.1 100)) v ∧ τ.1 98 v = (uaS ρ b hg hw (σ.1 100)) v) ∧ RtI τ ∧ Fr [88, 92, 93, 94, 95, 96, 97, 98, 99] σ τ ∧ KA σ τ) → τ.1 99 w = gaS ρ b w g → HdI τ m (hnT (ρ.1 (b + 5)) hg hw (σ.1 100) w g.toNat) → Ev X 0 0 (d + 6) mX11_addUp 26 [some (rv 88), some (iv al), some (iv w), some (iv g), x4] [] τ Q := by
  intro k
  induction k with
  | zero => intros; omega
  | succ k ih =>
  intro g m τ x4 hg0 hg1 hgk hmb hmg hI hgw0 hH
  have hG := ho.1
  have hW := ho.2.1
  have hN180 : τ.1 89 180 = (ρ.1 b 6) := by rw [(hI.2.2.1 89 (by decide)).1]; exact hP.1.1
  have hN181 : τ.1 89 181 = (ρ.1 b 7) := by rw [(hI.2.2.1 89 (by decide)).1]; exact hP.1.2.1
  have hk18 : τ.1 88 18 = pl := hI.2.2.2.1.trans hple
  have hk19 : τ.1 88 19 = hg := hI.2.2.2.2.1.trans hge
  have hk20 : τ.1 88 20 = hw := hI.2.2.2.2.2.trans hwe
  refine e_iload_n (pc' := 27) dX11_addUp_26 rfl rfl ?_
  refine e_aload_n (pc' := 28) dX11_addUp_27 rfl rfl ?_
  refine e_cv0i (pc' := 31) dX11_addUp_28 rfl k_11_76 h_88 rfl (Nat.le_of_ble_eq_true rfl) rfl rfl ⟨rfl, rfl⟩ ⟨Nat.zero_le _, Nat.zero_le _⟩ s_m_givers ?_
  intro r σ' hr; rw [hr.1, hr.2, hN180]; clear hr
  refine e_icmpI (pc' := 34) (t := 110) dX11_addUp_31 (by decide) rfl ⟨by omega, by omega⟩ ⟨by omega, by omega⟩ (fun (c2_1 : (ρ.1 b 6) ≤ (g : Int)) => ?_) (fun (c2_1 : ¬ ((ρ.1 b 6) ≤ (g : Int))) => ?_)
  · have e : (ρ.1 b 6) = g := by omega
    exact hK τ m _ _ (by omega) hI (by rw [e]; exact hgw0) (by rw [e]; exact hH)
  · have hgfr : 0 ≤ ρ.1 (b + 5) (g * 3 + w) ∧ ρ.1 (b + 5) (g * 3 + w) ≤ 12 := ho.2.2.2.2.2.2.1 (g * 3 + w) (by omega) (by omega)
    have hgft : τ.1 89 (35 + 3 * g + w) = ρ.1 (b + 5) (g * 3 + w) := by
      rw [(hI.2.2.1 89 (by decide)).1, show 35 + 3 * g + w = 35 + (g * 3 + w) by omega]
      exact (hP.2.2.2 (g * 3 + w) (by omega) (by omega)).2.2
    refine e_aload_n (pc' := 35) dX11_addUp_34 rfl rfl ?_
    refine e_getR (pc' := 38) dX11_addUp_35 rfl f_11_42 h_88 rfl ?_
    refine e_iload_n (pc' := 39) dX11_addUp_38 rfl rfl ?_
    refine e_dup2 (pc' := 40) dX11_addUp_39 rfl ⟨rfl, rfl⟩ ?_
    refine e_iald (pc' := 41) (v := (gaS ρ b w g)) dX11_addUp_40 rfl h_99 (by decide) (by omega) (by omega) hgw0 ?_
    refine e_aload_n (pc' := 42) dX11_addUp_41 rfl rfl ?_
    refine e_iload_n (pc' := 43) dX11_addUp_42 rfl rfl ?_
    refine e_iload_n (pc' := 44) dX11_addUp_43 rfl rfl ?_
    refine e_cv2i (pc' := 47) dX11_addUp_44 rfl k_11_186 h_88 rfl (Nat.le_of_ble_eq_true rfl) rfl rfl ⟨rfl, rfl⟩ ⟨Nat.zero_le _, Nat.zero_le _⟩ (s_m_gift g w (by omega) (by omega)) ?_
    intro r σ' hr; rw [hr.1, hr.2, show τ.1 89 (35 + 3 * g + w) = ρ.1 (b + 5) (g * 3 + w) from hgft]; clear hr
    refine e_iadd (pc' := 48) dX11_addUp_47 rfl ?_
    refine e_iast (pc' := 49) dX11_addUp_48 rfl h_99 (by decide) (by omega) (by omega) ?_
    have hFg : Fr [88, 92, 93, 94, 95, 96, 97, 98, 99] σ (upI τ 99 w ((gaS ρ b w g) + (ρ.1 (b + 5) (g * 3 + w)))) := fr_I hI.2.2.1 (by decide)
    have hKg : KA σ (upI τ 99 w ((gaS ρ b w g) + (ρ.1 (b + 5) (g * 3 + w)))) := hI.2.2.2
    have hH0 : HdI (upI τ 99 w ((gaS ρ b w g) + (ρ.1 (b + 5) (g * 3 + w)))) m (hnT (ρ.1 (b + 5)) hg hw (σ.1 100) w g.toNat) := hH
    have hgw : (upI τ 99 w ((gaS ρ b w g) + (ρ.1 (b + 5) (g * 3 + w)))).1 99 w = gaS ρ b w (g + 1) := by
      rw [show (upI τ 99 w ((gaS ρ b w g) + (ρ.1 (b + 5) (g * 3 + w)))).1 99 w = gaS ρ b w g + ρ.1 (b + 5) (g * 3 + w) from if_pos ⟨rfl, rfl⟩]
      unfold gaS
      rw [smI_s _ hg0]
    have hgv : ∀ v, ¬ v = w → (upI τ 99 w ((gaS ρ b w g) + (ρ.1 (b + 5) (g * 3 + w)))).1 99 v = τ.1 99 v := fun v q => if_neg (fun z => q z.2)
    refine e_iload_n (pc' := 50) dX11_addUp_49 rfl rfl ?_
    refine e_aload_n (pc' := 51) dX11_addUp_50 rfl rfl ?_
    refine e_getI (pc' := 54) (v := hg) dX11_addUp_51 rfl f_11_45 h_88 rfl hk19 ?_
    refine e_icmpI (pc' := 57) (t := 94) dX11_addUp_54 (by decide) rfl ⟨by omega, by omega⟩ ⟨by omega, by omega⟩ (fun (c4_2 : (g : Int) ≠ hg) => ?_) (fun (c4_2 : ¬ ((g : Int) ≠ hg)) => ?_)
    · refine e_aload_n (pc' := 95) dX11_addUp_94 rfl rfl ?_
      refine e_aload_n (pc' := 96) dX11_addUp_95 rfl rfl ?_
      refine e_iload_n (pc' := 97) dX11_addUp_96 rfl rfl ?_
      refine e_iload_n (pc' := 98) dX11_addUp_97 rfl rfl ?_
      refine e_cv2i (pc' := 101) dX11_addUp_98 rfl k_11_186 h_88 rfl (Nat.le_of_ble_eq_true rfl) rfl rfl ⟨rfl, rfl⟩ ⟨Nat.zero_le _, Nat.zero_le _⟩ (s_m_gift g w (by omega) (by omega)) ?_
      intro r σ' hr; rw [hr.1, hr.2, show (upI τ 99 w ((gaS ρ b w g) + (ρ.1 (b + 5) (g * 3 + w)))).1 89 (35 + 3 * g + w) = ρ.1 (b + 5) (g * 3 + w) from hgft]; clear hr
      refine e_cv1v (pc' := 104) dX11_addUp_101 rfl k_11_190 h_88 rfl (Nat.le_of_ble_eq_true rfl) rfl rfl ⟨rfl, rfl⟩ ⟨Nat.zero_le _, Nat.zero_le _⟩ (s_m_putHand m (hnT (ρ.1 (b + 5)) hg hw (σ.1 100) w g.toNat) (by omega) hH0 (ρ.1 (b + 5) (g * 3 + w)) (hgfr)) ?_
      rintro τ1 ⟨hH1, hE1, hJ1⟩
      have hFF1 : Fr [88, 92, 93, 94, 95, 96, 97, 98, 99] σ τ1 := hFg.tr (hE1.mono (by decide))
      have hKK1 : KA σ τ1 := hKg.tr hJ1
      refine e_iinc (pc' := 107) (L' := [some (rv 88), some (iv al), some (iv w), some (iv (g + 1)), x4]) dX11_addUp_104 rfl rfl (by decide) rfl ?_
      refine e_goto (pc' := 26) dX11_addUp_107 (by decide) ?_
      have e99_1 : τ1.1 99 = (upI τ 99 w ((gaS ρ b w g) + (ρ.1 (b + 5) (g * 3 + w)))).1 99 := (hE1 99 (by decide)).1
      have e97_1 : τ1.1 97 = (upI τ 99 w ((gaS ρ b w g) + (ρ.1 (b + 5) (g * 3 + w)))).1 97 := (hE1 97 (by decide)).1
      have e98_1 : τ1.1 98 = (upI τ 99 w ((gaS ρ b w g) + (ρ.1 (b + 5) (g * 3 + w)))).1 98 := (hE1 98 (by decide)).1
      have e96_1 : τ1.2 96 = (upI τ 99 w ((gaS ρ b w g) + (ρ.1 (b + 5) (g * 3 + w)))).2 96 := (hE1 96 (by decide)).2
      refine ih (g + 1) (m + 1) τ1 _ (by omega) (by omega) (by omega) (by omega) (by omega) ⟨fun v a c => ?_, RtI.fr (σ := τ) hI.2.1 (by rw [e96_1]; rfl), hFF1, hKK1⟩ ?_ ?_
      · rw [e99_1, e97_1, e98_1]
        rw [hgv v (by omega)]
        exact hI.1 v a c
      · rw [e99_1]
        exact hgw
      · have e := hnT_s (ρ.1 (b + 5)) hg hw (σ.1 100) w hg0
        rw [if_neg (fun q => by omega)] at e
        rw [e]
        exact hH1
    · refine e_iload_n (pc' := 58) dX11_addUp_57 rfl rfl ?_
      refine e_aload_n (pc' := 59) dX11_addUp_58 rfl rfl ?_
      refine e_getI (pc' := 62) (v := hw) dX11_addUp_59 rfl f_11_49 h_88 rfl hk20 ?_
      refine e_icmpI (pc' := 65) (t := 94) dX11_addUp_62 (by decide) rfl ⟨by omega, by omega⟩ ⟨by omega, by omega⟩ (fun (c6_3 : (w : Int) ≠ hw) => ?_) (fun (c6_3 : ¬ ((w : Int) ≠ hw)) => ?_)
      · refine e_aload_n (pc' := 95) dX11_addUp_94 rfl rfl ?_
        refine e_aload_n (pc' := 96) dX11_addUp_95 rfl rfl ?_
        refine e_iload_n (pc' := 97) dX11_addUp_96 rfl rfl ?_
        refine e_iload_n (pc' := 98) dX11_addUp_97 rfl rfl ?_
        refine e_cv2i (pc' := 101) dX11_addUp_98 rfl k_11_186 h_88 rfl (Nat.le_of_ble_eq_true rfl) rfl rfl ⟨rfl, rfl⟩ ⟨Nat.zero_le _, Nat.zero_le _⟩ (s_m_gift g w (by omega) (by omega)) ?_
        intro r σ' hr; rw [hr.1, hr.2, show (upI τ 99 w ((gaS ρ b w g) + (ρ.1 (b + 5) (g * 3 + w)))).1 89 (35 + 3 * g + w) = ρ.1 (b + 5) (g * 3 + w) from hgft]; clear hr
        refine e_cv1v (pc' := 104) dX11_addUp_101 rfl k_11_190 h_88 rfl (Nat.le_of_ble_eq_true rfl) rfl rfl ⟨rfl, rfl⟩ ⟨Nat.zero_le _, Nat.zero_le _⟩ (s_m_putHand m (hnT (ρ.1 (b + 5)) hg hw (σ.1 100) w g.toNat) (by omega) hH0 (ρ.1 (b + 5) (g * 3 + w)) (hgfr)) ?_
        rintro τ1 ⟨hH1, hE1, hJ1⟩
        have hFF1 : Fr [88, 92, 93, 94, 95, 96, 97, 98, 99] σ τ1 := hFg.tr (hE1.mono (by decide))
        have hKK1 : KA σ τ1 := hKg.tr hJ1
        refine e_iinc (pc' := 107) (L' := [some (rv 88), some (iv al), some (iv w), some (iv (g + 1)), x4]) dX11_addUp_104 rfl rfl (by decide) rfl ?_
        refine e_goto (pc' := 26) dX11_addUp_107 (by decide) ?_
        have e99_1 : τ1.1 99 = (upI τ 99 w ((gaS ρ b w g) + (ρ.1 (b + 5) (g * 3 + w)))).1 99 := (hE1 99 (by decide)).1
        have e97_1 : τ1.1 97 = (upI τ 99 w ((gaS ρ b w g) + (ρ.1 (b + 5) (g * 3 + w)))).1 97 := (hE1 97 (by decide)).1
        have e98_1 : τ1.1 98 = (upI τ 99 w ((gaS ρ b w g) + (ρ.1 (b + 5) (g * 3 + w)))).1 98 := (hE1 98 (by decide)).1
        have e96_1 : τ1.2 96 = (upI τ 99 w ((gaS ρ b w g) + (ρ.1 (b + 5) (g * 3 + w)))).2 96 := (hE1 96 (by decide)).2
        refine ih (g + 1) (m + 1) τ1 _ (by omega) (by omega) (by omega) (by omega) (by omega) ⟨fun v a c => ?_, RtI.fr (σ := τ) hI.2.1 (by rw [e96_1]; rfl), hFF1, hKK1⟩ ?_ ?_
        · rw [e99_1, e97_1, e98_1]
          rw [hgv v (by omega)]
          exact hI.1 v a c
        · rw [e99_1]
          exact hgw
        · have e := hnT_s (ρ.1 (b + 5)) hg hw (σ.1 100) w hg0
          rw [if_neg (fun q => by omega)] at e
          rw [e]
          exact hH1
      · refine e_iconst (pc' := 66) dX11_addUp_65 rfl ?_
        refine e_istore (pc' := 68) (L' := [some (rv 88), some (iv al), some (iv w), some (iv g), some (iv 0)]) dX11_addUp_66 rfl (by decide) rfl ?_
        refine e_iload (pc' := 70) dX11_addUp_68 rfl rfl ?_
        refine e_iconst (pc' := 71) dX11_addUp_70 rfl ?_
        refine e_icmpI (pc' := 74) (t := 91) dX11_addUp_71 (by decide) rfl ⟨by omega, by omega⟩ ⟨by omega, by omega⟩ (fun c8_4 => absurd (show 4 ≤ (0 : Int) from c8_4) (by decide)) (fun _ => ?_)
        refine e_aload_n (pc' := 75) dX11_addUp_74 rfl rfl ?_
        refine e_aload_n (pc' := 76) dX11_addUp_75 rfl rfl ?_
        refine e_getR (pc' := 79) dX11_addUp_76 rfl f_11_52 h_88 rfl ?_
        refine e_iload (pc' := 81) dX11_addUp_79 rfl rfl ?_
        refine e_iald (pc' := 82) (v := (σ.1 100 0)) dX11_addUp_81 rfl h_100 (by decide) (by omega) (by omega) (congrFun (hFg 100 (by decide)).1 0) ?_
        refine e_cv1v (pc' := 85) dX11_addUp_82 rfl k_11_190 h_88 rfl (Nat.le_of_ble_eq_true rfl) rfl rfl ⟨rfl, rfl⟩ ⟨Nat.zero_le _, Nat.zero_le _⟩ (s_m_putHand m (hnT (ρ.1 (b + 5)) hg hw (σ.1 100) w g.toNat) (by omega) hH0 (σ.1 100 0) (hpt 0 (by decide) (by decide))) ?_
        rintro τ1 ⟨hH1, hE1, hJ1⟩
        have hFF1 : Fr [88, 92, 93, 94, 95, 96, 97, 98, 99] σ τ1 := hFg.tr (hE1.mono (by decide))
        have hKK1 : KA σ τ1 := hKg.tr hJ1
        refine e_iinc (pc' := 88) (L' := [some (rv 88), some (iv al), some (iv w), some (iv g), some (iv 1)]) dX11_addUp_85 rfl rfl (by decide) rfl ?_
        refine e_goto (pc' := 68) dX11_addUp_88 (by decide) ?_
        refine e_iload (pc' := 70) dX11_addUp_68 rfl rfl ?_
        refine e_iconst (pc' := 71) dX11_addUp_70 rfl ?_
        refine e_icmpI (pc' := 74) (t := 91) dX11_addUp_71 (by decide) rfl ⟨by omega, by omega⟩ ⟨by omega, by omega⟩ (fun c8_5 => absurd (show 4 ≤ (1 : Int) from c8_5) (by decide)) (fun _ => ?_)
        refine e_aload_n (pc' := 75) dX11_addUp_74 rfl rfl ?_
        refine e_aload_n (pc' := 76) dX11_addUp_75 rfl rfl ?_
        refine e_getR (pc' := 79) dX11_addUp_76 rfl f_11_52 h_88 rfl ?_
        refine e_iload (pc' := 81) dX11_addUp_79 rfl rfl ?_
        refine e_iald (pc' := 82) (v := (σ.1 100 1)) dX11_addUp_81 rfl h_100 (by decide) (by omega) (by omega) (congrFun (hFF1 100 (by decide)).1 1) ?_
        refine e_cv1v (pc' := 85) dX11_addUp_82 rfl k_11_190 h_88 rfl (Nat.le_of_ble_eq_true rfl) rfl rfl ⟨rfl, rfl⟩ ⟨Nat.zero_le _, Nat.zero_le _⟩ (s_m_putHand (m + 1) (seeS (hnT (ρ.1 (b + 5)) hg hw (σ.1 100) w g.toNat) (σ.1 100 0)) (by omega) hH1 (σ.1 100 1) (hpt 1 (by decide) (by decide))) ?_
        rintro τ2 ⟨hH2, hE2, hJ2⟩
        have hFF2 : Fr [88, 92, 93, 94, 95, 96, 97, 98, 99] σ τ2 := hFF1.tr (hE2.mono (by decide))
        have hKK2 : KA σ τ2 := hKK1.tr hJ2
        refine e_iinc (pc' := 88) (L' := [some (rv 88), some (iv al), some (iv w), some (iv g), some (iv 2)]) dX11_addUp_85 rfl rfl (by decide) rfl ?_
        refine e_goto (pc' := 68) dX11_addUp_88 (by decide) ?_
        refine e_iload (pc' := 70) dX11_addUp_68 rfl rfl ?_
        refine e_iconst (pc' := 71) dX11_addUp_70 rfl ?_
        refine e_icmpI (pc' := 74) (t := 91) dX11_addUp_71 (by decide) rfl ⟨by omega, by omega⟩ ⟨by omega, by omega⟩ (fun c8_6 => absurd (show 4 ≤ (2 : Int) from c8_6) (by decide)) (fun _ => ?_)
        refine e_aload_n (pc' := 75) dX11_addUp_74 rfl rfl ?_
        refine e_aload_n (pc' := 76) dX11_addUp_75 rfl rfl ?_
        refine e_getR (pc' := 79) dX11_addUp_76 rfl f_11_52 h_88 rfl ?_
        refine e_iload (pc' := 81) dX11_addUp_79 rfl rfl ?_
        refine e_iald (pc' := 82) (v := (σ.1 100 2)) dX11_addUp_81 rfl h_100 (by decide) (by omega) (by omega) (congrFun (hFF2 100 (by decide)).1 2) ?_
        refine e_cv1v (pc' := 85) dX11_addUp_82 rfl k_11_190 h_88 rfl (Nat.le_of_ble_eq_true rfl) rfl rfl ⟨rfl, rfl⟩ ⟨Nat.zero_le _, Nat.zero_le _⟩ (s_m_putHand (m + 2) (seeS (seeS (hnT (ρ.1 (b + 5)) hg hw (σ.1 100) w g.toNat) (σ.1 100 0)) (σ.1 100 1)) (by omega) hH2 (σ.1 100 2) (hpt 2 (by decide) (by decide))) ?_
        rintro τ3 ⟨hH3, hE3, hJ3⟩
        have hFF3 : Fr [88, 92, 93, 94, 95, 96, 97, 98, 99] σ τ3 := hFF2.tr (hE3.mono (by decide))
        have hKK3 : KA σ τ3 := hKK2.tr hJ3
        refine e_iinc (pc' := 88) (L' := [some (rv 88), some (iv al), some (iv w), some (iv g), some (iv 3)]) dX11_addUp_85 rfl rfl (by decide) rfl ?_
        refine e_goto (pc' := 68) dX11_addUp_88 (by decide) ?_
        refine e_iload (pc' := 70) dX11_addUp_68 rfl rfl ?_
        refine e_iconst (pc' := 71) dX11_addUp_70 rfl ?_
        refine e_icmpI (pc' := 74) (t := 91) dX11_addUp_71 (by decide) rfl ⟨by omega, by omega⟩ ⟨by omega, by omega⟩ (fun c8_7 => absurd (show 4 ≤ (3 : Int) from c8_7) (by decide)) (fun _ => ?_)
        refine e_aload_n (pc' := 75) dX11_addUp_74 rfl rfl ?_
        refine e_aload_n (pc' := 76) dX11_addUp_75 rfl rfl ?_
        refine e_getR (pc' := 79) dX11_addUp_76 rfl f_11_52 h_88 rfl ?_
        refine e_iload (pc' := 81) dX11_addUp_79 rfl rfl ?_
        refine e_iald (pc' := 82) (v := (σ.1 100 3)) dX11_addUp_81 rfl h_100 (by decide) (by omega) (by omega) (congrFun (hFF3 100 (by decide)).1 3) ?_
        refine e_cv1v (pc' := 85) dX11_addUp_82 rfl k_11_190 h_88 rfl (Nat.le_of_ble_eq_true rfl) rfl rfl ⟨rfl, rfl⟩ ⟨Nat.zero_le _, Nat.zero_le _⟩ (s_m_putHand (m + 3) (seeS (seeS (seeS (hnT (ρ.1 (b + 5)) hg hw (σ.1 100) w g.toNat) (σ.1 100 0)) (σ.1 100 1)) (σ.1 100 2)) (by omega) hH3 (σ.1 100 3) (hpt 3 (by decide) (by decide))) ?_
        rintro τ4 ⟨hH4, hE4, hJ4⟩
        have hFF4 : Fr [88, 92, 93, 94, 95, 96, 97, 98, 99] σ τ4 := hFF3.tr (hE4.mono (by decide))
        have hKK4 : KA σ τ4 := hKK3.tr hJ4
        refine e_iinc (pc' := 88) (L' := [some (rv 88), some (iv al), some (iv w), some (iv g), some (iv 4)]) dX11_addUp_85 rfl rfl (by decide) rfl ?_
        refine e_goto (pc' := 68) dX11_addUp_88 (by decide) ?_
        refine e_iload (pc' := 70) dX11_addUp_68 rfl rfl ?_
        refine e_iconst (pc' := 71) dX11_addUp_70 rfl ?_
        refine e_icmpI (pc' := 74) (t := 91) dX11_addUp_71 (by decide) rfl ⟨by omega, by omega⟩ ⟨by omega, by omega⟩ (fun _ => ?_) (fun c8_8 => absurd (show 4 ≤ (4 : Int) by decide) c8_8)
        refine e_goto (pc' := 104) dX11_addUp_91 (by decide) ?_
        refine e_iinc (pc' := 107) (L' := [some (rv 88), some (iv al), some (iv w), some (iv (g + 1)), some (iv 4)]) dX11_addUp_104 rfl rfl (by decide) rfl ?_
        refine e_goto (pc' := 26) dX11_addUp_107 (by decide) ?_
        have e99_1 : τ1.1 99 = (upI τ 99 w ((gaS ρ b w g) + (ρ.1 (b + 5) (g * 3 + w)))).1 99 := (hE1 99 (by decide)).1
        have e97_1 : τ1.1 97 = (upI τ 99 w ((gaS ρ b w g) + (ρ.1 (b + 5) (g * 3 + w)))).1 97 := (hE1 97 (by decide)).1
        have e98_1 : τ1.1 98 = (upI τ 99 w ((gaS ρ b w g) + (ρ.1 (b + 5) (g * 3 + w)))).1 98 := (hE1 98 (by decide)).1
        have e96_1 : τ1.2 96 = (upI τ 99 w ((gaS ρ b w g) + (ρ.1 (b + 5) (g * 3 + w)))).2 96 := (hE1 96 (by decide)).2
        have e99_2 : τ2.1 99 = τ1.1 99 := (hE2 99 (by decide)).1
        have e97_2 : τ2.1 97 = τ1.1 97 := (hE2 97 (by decide)).1
        have e98_2 : τ2.1 98 = τ1.1 98 := (hE2 98 (by decide)).1
        have e96_2 : τ2.2 96 = τ1.2 96 := (hE2 96 (by decide)).2
        have e99_3 : τ3.1 99 = τ2.1 99 := (hE3 99 (by decide)).1
        have e97_3 : τ3.1 97 = τ2.1 97 := (hE3 97 (by decide)).1
        have e98_3 : τ3.1 98 = τ2.1 98 := (hE3 98 (by decide)).1
        have e96_3 : τ3.2 96 = τ2.2 96 := (hE3 96 (by decide)).2
        have e99_4 : τ4.1 99 = τ3.1 99 := (hE4 99 (by decide)).1
        have e97_4 : τ4.1 97 = τ3.1 97 := (hE4 97 (by decide)).1
        have e98_4 : τ4.1 98 = τ3.1 98 := (hE4 98 (by decide)).1
        have e96_4 : τ4.2 96 = τ3.2 96 := (hE4 96 (by decide)).2
        refine ih (g + 1) (m + 4) τ4 _ (by omega) (by omega) (by omega) (by omega) (by omega) ⟨fun v a c => ?_, RtI.fr (σ := τ) hI.2.1 (by rw [e96_4, e96_3, e96_2, e96_1]; rfl), hFF4, hKK4⟩ ?_ ?_
        · rw [e99_4, e99_3, e99_2, e99_1, e97_4, e97_3, e97_2, e97_1, e98_4, e98_3, e98_2, e98_1]
          rw [hgv v (by omega)]
          exact hI.1 v a c
        · rw [e99_4, e99_3, e99_2, e99_1]
          exact hgw
        · have e := hnT_s (ρ.1 (b + 5)) hg hw (σ.1 100) w hg0
          rw [if_pos ⟨by omega, by omega⟩] at e
          rw [e]
          exact hH4

set_option maxHeartbeats 4000000 in
set_option maxRecDepth 100000 in
theorem l_addW {X : AX} {d : Nat} {σ : SG} (ρ : SG) (b : Nat) (ho : ScOK ρ b) (hP : MrP (σ.1 89) ρ b) (pl hg hw : Int) (hpl : (pl = 1 ∧ ∀ t, tlR ρ b t = 0) ∨ (pl = 0 ∧ MrR (σ.1 89) ρ b)) (hple : σ.1 88 18 = pl) (hge : σ.1 88 19 = hg) (hwe : σ.1 88 20 = hw) (hgr : -1 ≤ hg ∧ hg ≤ 4) (hwr : -1 ≤ hw ∧ hw ≤ 2) (hpt : ∀ i, 0 ≤ i → i < 4 → 0 ≤ σ.1 100 i ∧ σ.1 100 i ≤ 12) (hpu : 0 ≤ σ.1 89 55 ∧ σ.1 89 55 ≤ 200) : ∀ (k : Nat) (w al : Int) (τ : SG) (x3 x4 : Option AV), 0 ≤ w → w ≤ (ρ.1 b 7) → (ρ.1 b 7) - w < k → al = smI (uaS ρ b hg hw (σ.1 100)) w → ((∀ v, 0 ≤ v → v < w → τ.1 99 v = gaS ρ b v (ρ.1 b 6) ∧ τ.1 97 v = (uaS ρ b hg hw (σ.1 100)) v ∧ τ.1 98 v = (uaS ρ b hg hw (σ.1 100)) v) ∧ RtI τ ∧ Fr [88, 92, 93, 94, 95, 96, 97, 98, 99] σ τ ∧ KA σ τ) → Ev X 0 0 (d + 6) mX11_addUp 4 [some (rv 88), some (iv al), some (iv w), x3, x4] [] τ (QV (fun σ' => (∀ w, 0 ≤ w → w < (ρ.1 b 7) → σ'.1 99 w = gfS ρ b w ∧ σ'.1 97 w = (uaS ρ b hg hw (σ.1 100)) w ∧ σ'.1 98 w = adS (ρ.1 b 11) (ρ.1 b 10) (uaS ρ b hg hw (σ.1 100)) w) ∧ RtI σ' ∧ Fr [88, 92, 93, 94, 95, 96, 97, 98, 99] σ σ' ∧ KA σ σ')) := by
  intro k
  induction k with
  | zero => intros; omega
  | succ k ih =>
  intro w al τ x3 x4 hw0 hw1 hwk hal hI
  have hG := ho.1
  have hW := ho.2.1
  have hN180 : τ.1 89 180 = (ρ.1 b 6) := by rw [(hI.2.2.1 89 (by decide)).1]; exact hP.1.1
  have hN181 : τ.1 89 181 = (ρ.1 b 7) := by rw [(hI.2.2.1 89 (by decide)).1]; exact hP.1.2.1
  have hk18 : τ.1 88 18 = pl := hI.2.2.2.1.trans hple
  have hk19 : τ.1 88 19 = hg := hI.2.2.2.2.1.trans hge
  have hk20 : τ.1 88 20 = hw := hI.2.2.2.2.2.trans hwe
  refine e_iload_n (pc' := 5) dX11_addUp_4 rfl rfl ?_
  refine e_aload_n (pc' := 6) dX11_addUp_5 rfl rfl ?_
  refine e_cv0i (pc' := 9) dX11_addUp_6 rfl k_11_84 h_88 rfl (Nat.le_of_ble_eq_true rfl) rfl rfl ⟨rfl, rfl⟩ ⟨Nat.zero_le _, Nat.zero_le _⟩ s_m_works ?_
  intro r σ' hr; rw [hr.1, hr.2, hN181]; clear hr
  refine e_icmpI (pc' := 12) (t := 165) dX11_addUp_9 (by decide) rfl (by first | exact ⟨by omega, by omega⟩ | exact hpu) (by first | exact ⟨by omega, by omega⟩ | exact hpu) (fun (c2_1 : (ρ.1 b 7) ≤ (w : Int)) => ?_) (fun (c2_1 : ¬ ((ρ.1 b 7) ≤ (w : Int))) => ?_)
  · have hwe1 : w = (ρ.1 b 7) := by omega
    have hal1 : al = (uaS ρ b hg hw (σ.1 100)) 0 + (uaS ρ b hg hw (σ.1 100)) 1 + (uaS ρ b hg hw (σ.1 100)) 2 := by
      rw [hal, hwe1]
      exact sm_3 (u := (uaS ρ b hg hw (σ.1 100))) hW (fun _ _ _ => rfl) (fun v a c => by unfold uaS; rw [if_neg (by omega)])
    have u0 := uaS_rg ρ b hg hw (σ.1 100) 0
    have u1 := uaS_rg ρ b hg hw (σ.1 100) 1
    have u2 := uaS_rg ρ b hg hw (σ.1 100) 2
    obtain ⟨pu, hpue⟩ : ∃ pu, pu = σ.1 89 55 := ⟨_, rfl⟩
    have hpu1 : τ.1 89 55 = pu := by rw [(hI.2.2.1 89 (by decide)).1]; exact hpue.symm
    rw [← hpue] at hpu
    refine e_aload_n (pc' := 166) dX11_addUp_165 rfl rfl ?_
    refine e_getR (pc' := 169) dX11_addUp_166 rfl f_11_7 h_88 rfl ?_
    refine e_bipush (pc' := 171) (z := 55) dX11_addUp_169 rfl (by decide) ?_
    refine e_iald (pc' := 172) (v := pu) dX11_addUp_171 rfl h_89 (by decide) (by omega) (by omega) hpu1 ?_
    refine e_istore_n (pc' := 173) (L' := [some (rv 88), some (iv al), some (iv pu), x3, x4]) dX11_addUp_172 rfl (by decide) rfl ?_
    refine e_iload_n (pc' := 174) dX11_addUp_173 rfl rfl ?_
    refine e_iload_n (pc' := 175) dX11_addUp_174 rfl rfl ?_
    refine e_icmpI (pc' := 178) (t := 184) dX11_addUp_175 (by decide) rfl (by first | exact ⟨by omega, by omega⟩ | exact hpu) (by first | exact ⟨by omega, by omega⟩ | exact hpu) (fun (c4_2 : (al : Int) ≤ pu) => ?_) (fun (c4_2 : ¬ ((al : Int) ≤ pu)) => ?_)
    · have hle : (uaS ρ b hg hw (σ.1 100)) 0 + (uaS ρ b hg hw (σ.1 100)) 1 + (uaS ρ b hg hw (σ.1 100)) 2 ≤ ρ.1 b 10 := by
        have h10 := ho.2.2.2.2.1
        rcases hpl with q | q
        · have z : ∀ v, (uaS ρ b hg hw (σ.1 100)) v = 0 := fun v => by unfold uaS; split <;> first | exact q.2 _ | rfl
          rw [z, z, z]; omega
        · have := q.2.1.2.1; omega
      exact e_vret dX11_addUp_184 rfl ⟨rfl, Nat.le_refl _⟩ ⟨rfl, (fun v a c => by have q := hI.1 v a (by omega); refine ⟨by rw [q.1]; unfold gfS; rw [if_pos c]; rfl, q.2.1, ?_⟩; rw [q.2.2]; unfold adS; rw [if_pos hle]), hI.2.1, hI.2.2.1, hI.2.2.2⟩
    · have hM : MrR (σ.1 89) ρ b := by
        rcases hpl with q | q
        · have z : ∀ v, (uaS ρ b hg hw (σ.1 100)) v = 0 := fun v => by unfold uaS; split <;> first | exact q.2 _ | rfl
          rw [z, z, z] at hal1; omega
        · exact q.2
      have hmde : τ.1 89 56 = ρ.1 b 11 := by rw [(hI.2.2.1 89 (by decide)).1]; exact hM.1.2.2
      have hp10 : pu = ρ.1 b 10 := by rw [hpue]; exact hM.1.2.1
      refine e_aload_n (pc' := 179) dX11_addUp_178 rfl rfl ?_
      refine e_iload_n (pc' := 180) dX11_addUp_179 rfl rfl ?_
      refine e_iload_n (pc' := 181) dX11_addUp_180 rfl rfl ?_
      refine e_cv2v (pc' := 184) dX11_addUp_181 rfl k_11_200 h_88 rfl (Nat.le_of_ble_eq_true rfl) rfl rfl ⟨rfl, rfl⟩ ⟨Nat.zero_le _, Nat.zero_le _⟩ (s_m_part (uaS ρ b hg hw (σ.1 100)) (ρ.1 b 7) hW hN181 (fun v a c => (hI.1 v a (by omega)).2.1) ⟨(fun v a c => by unfold uaS; rw [if_neg (by omega)]), (fun v _ _ => uaS_rg _ _ _ _ _ _)⟩ pu (ρ.1 b 11) al hpu ho.2.2.2.2.2.1 hmde hal1 (by omega)) ?_
      rintro τ2 ⟨hA2, hF2⟩
      exact e_vret dX11_addUp_184 rfl ⟨rfl, Nat.le_refl _⟩ ⟨rfl, (fun v a c => by have q := hI.1 v a (by omega); refine ⟨by rw [(hF2 99 (by decide)).1, q.1]; unfold gfS; rw [if_pos c]; rfl, by rw [(hF2 97 (by decide)).1]; exact q.2.1, ?_⟩; rw [← hp10]; exact hA2 v a c), RtI.fr hI.2.1 (hF2 96 (by decide)).2, hI.2.2.1.tr (hF2.mono (by decide)), hI.2.2.2.tr (by have e := (hF2 88 (by decide)).1; unfold KA; rw [e]; exact ⟨rfl, rfl, rfl⟩)⟩
  · refine e_aload_n (pc' := 13) dX11_addUp_12 rfl rfl ?_
    refine e_iconst (pc' := 14) dX11_addUp_13 rfl ?_
    refine e_putI (pc' := 17) dX11_addUp_14 rfl f_11_177 h_88 rfl rfl rfl ?_
    refine e_aload_n (pc' := 18) dX11_addUp_17 rfl rfl ?_
    refine e_getR (pc' := 21) dX11_addUp_18 rfl f_11_42 h_88 rfl ?_
    refine e_iload_n (pc' := 22) dX11_addUp_21 rfl rfl ?_
    refine e_iconst (pc' := 23) dX11_addUp_22 rfl ?_
    refine e_iast (pc' := 24) dX11_addUp_23 rfl h_99 (by decide) (by omega) (by omega) ?_
    refine e_iconst (pc' := 25) dX11_addUp_24 rfl ?_
    refine e_istore_n (pc' := 26) (L' := [some (rv 88), some (iv al), some (iv w), some (iv 0), x4]) dX11_addUp_25 rfl (by decide) rfl ?_
    refine l_addG ρ b ho hP pl hg hw hpl hple hge hwe hgr hwr hpt hpu w al ⟨hw0, by omega⟩ (fun τ' m y3 y4 hm' hI' hgw' hH' => ?_) ((ρ.1 b 6) + 1).toNat 0 0 (upI (upI τ 88 13 0) 99 w 0) _ (by omega) (by omega) (by omega) (by omega) (by omega) ⟨fun v a c => ?_, RtI.fr (σ := τ) hI.2.1 rfl, (by repeat (first | exact Fr.rf | exact hI.2.2.1 | (refine fr_I ?_ (by decide)) | (refine fr_J ?_ (by decide)) | (refine fr_C ?_ (by decide)))), hI.2.2.2⟩ (if_pos ⟨rfl, rfl⟩) ⟨rfl, (fun k a c => absurd c (by omega)), rfl⟩
    · have hk18' : τ'.1 88 18 = pl := hI'.2.2.2.1.trans hple
      refine e_aload_n (pc' := 111) dX11_addUp_110 rfl rfl ?_
      refine e_getR (pc' := 114) dX11_addUp_111 rfl f_11_36 h_88 rfl ?_
      refine e_iload_n (pc' := 115) dX11_addUp_114 rfl rfl ?_
      refine e_aload_n (pc' := 116) dX11_addUp_115 rfl rfl ?_
      refine e_getI (pc' := 119) (v := pl) dX11_addUp_116 rfl f_11_193 h_88 rfl hk18' ?_
      refine e_ifI (pc' := 122) (t := 126) dX11_addUp_119 (by decide) rfl (by first | exact ⟨by omega, by omega⟩ | (rcases hpl with q | q <;> exact ⟨by omega, by omega⟩)) (fun (c2_1 : (pl : Int) = 0) => ?_) (fun (c2_1 : ¬ ((pl : Int) = 0)) => ?_)
      · have hM : MrR (σ.1 89) ρ b := by
          rcases hpl with q | q
          · omega
          · exact q.2
        have hM1 : MrR (τ'.1 89) ρ b := by rw [(hI'.2.2.1 89 (by decide)).1]; exact hM
        refine e_aload_n (pc' := 127) dX11_addUp_126 rfl rfl ?_
        refine e_aload_n (pc' := 128) dX11_addUp_127 rfl rfl ?_
        refine e_getR (pc' := 131) dX11_addUp_128 rfl f_11_7 h_88 rfl ?_
        refine e_bipush (pc' := 133) (z := 54) dX11_addUp_131 rfl (by decide) ?_
        refine e_iald (pc' := 134) (v := (ρ.1 b 9)) dX11_addUp_133 rfl h_89 (by decide) (by omega) (by omega) (hM1.1.1) ?_
        refine e_cv1i (pc' := 137) dX11_addUp_134 rfl k_11_197 h_88 rfl (Nat.le_of_ble_eq_true rfl) rfl rfl ⟨rfl, rfl⟩ ⟨Nat.zero_le _, Nat.zero_le _⟩ (s_m_rule hM1 _ m hm' hH' hI'.2.1 (ρ.1 b 9) ho.2.2.2.1) ?_
        rintro z τ2 ⟨hz, hR2, hF2, hK2⟩
        have hzu : z = (uaS ρ b hg hw (σ.1 100)) w := by rw [hz]; unfold uaS; rw [if_pos (by omega)]; rfl
        rw [hzu]
        refine e_iast (pc' := 138) dX11_addUp_137 rfl h_97 (by decide) (by omega) (by omega) ?_
        refine e_aload_n (pc' := 139) dX11_addUp_138 rfl rfl ?_
        refine e_getR (pc' := 142) dX11_addUp_139 rfl f_11_39 h_88 rfl ?_
        refine e_iload_n (pc' := 143) dX11_addUp_142 rfl rfl ?_
        refine e_aload_n (pc' := 144) dX11_addUp_143 rfl rfl ?_
        refine e_getR (pc' := 147) dX11_addUp_144 rfl f_11_36 h_88 rfl ?_
        refine e_iload_n (pc' := 148) dX11_addUp_147 rfl rfl ?_
        refine e_iald (pc' := 149) (v := ((uaS ρ b hg hw (σ.1 100)) w)) dX11_addUp_148 rfl h_97 (by decide) (by omega) (by omega) (if_pos ⟨rfl, rfl⟩) ?_
        refine e_iast (pc' := 150) dX11_addUp_149 rfl h_98 (by decide) (by omega) (by omega) ?_
        refine e_iload_n (pc' := 151) dX11_addUp_150 rfl rfl ?_
        refine e_aload_n (pc' := 152) dX11_addUp_151 rfl rfl ?_
        refine e_getR (pc' := 155) dX11_addUp_152 rfl f_11_36 h_88 rfl ?_
        refine e_iload_n (pc' := 156) dX11_addUp_155 rfl rfl ?_
        refine e_iald (pc' := 157) (v := ((uaS ρ b hg hw (σ.1 100)) w)) dX11_addUp_156 rfl h_97 (by decide) (by omega) (by omega) (if_pos ⟨rfl, rfl⟩) ?_
        refine e_iadd (pc' := 158) dX11_addUp_157 rfl ?_
        refine e_istore_n (pc' := 159) (L' := [some (rv 88), some (iv (al + ((uaS ρ b hg hw (σ.1 100)) w))), some (iv w), y3, y4]) dX11_addUp_158 rfl (by decide) rfl ?_
        refine e_iinc (pc' := 162) (L' := [some (rv 88), some (iv (al + ((uaS ρ b hg hw (σ.1 100)) w))), some (iv (w + 1)), y3, y4]) dX11_addUp_159 rfl rfl (by decide) rfl ?_
        refine e_goto (pc' := 4) dX11_addUp_162 (by decide) ?_
        have e97 : ∀ v, (upI (upI τ2 97 w ((uaS ρ b hg hw (σ.1 100)) w)) 98 w ((uaS ρ b hg hw (σ.1 100)) w)).1 97 v = if v = w then ((uaS ρ b hg hw (σ.1 100)) w) else τ'.1 97 v := fun v => by
          by_cases hv : v = w
          · rw [if_pos hv, hv]; exact if_pos ⟨rfl, rfl⟩
          · rw [if_neg hv]; exact (if_neg (fun q => hv q.2) : (upI (upI τ2 97 w ((uaS ρ b hg hw (σ.1 100)) w)) 98 w ((uaS ρ b hg hw (σ.1 100)) w)).1 97 v = τ2.1 97 v).trans (congrFun ((hF2 97 (by decide)).1 : τ2.1 97 = τ'.1 97) v)
        have e98 : ∀ v, (upI (upI τ2 97 w ((uaS ρ b hg hw (σ.1 100)) w)) 98 w ((uaS ρ b hg hw (σ.1 100)) w)).1 98 v = if v = w then ((uaS ρ b hg hw (σ.1 100)) w) else τ'.1 98 v := fun v => by
          by_cases hv : v = w
          · rw [if_pos hv, hv]; exact if_pos ⟨rfl, rfl⟩
          · rw [if_neg hv]; exact (if_neg (fun q => hv q.2) : (upI (upI τ2 97 w ((uaS ρ b hg hw (σ.1 100)) w)) 98 w ((uaS ρ b hg hw (σ.1 100)) w)).1 98 v = τ2.1 98 v).trans (congrFun ((hF2 98 (by decide)).1 : τ2.1 98 = τ'.1 98) v)
        have e99 : (upI (upI τ2 97 w ((uaS ρ b hg hw (σ.1 100)) w)) 98 w ((uaS ρ b hg hw (σ.1 100)) w)).1 99 = τ'.1 99 := (hF2 99 (by decide)).1
        refine ih (w + 1) _ (upI (upI τ2 97 w ((uaS ρ b hg hw (σ.1 100)) w)) 98 w ((uaS ρ b hg hw (σ.1 100)) w)) _ _ (by omega) (by omega) (by omega) ?_ ⟨fun v a c => ?_, ?_, ?_, ?_⟩
        · rw [smI_s _ hw0, ← hal]
          try rfl
        · rw [e97, e98, e99]
          by_cases hv : v = w
          · rw [if_pos hv, if_pos hv, hv]
            exact ⟨hgw', rfl, rfl⟩
          · rw [if_neg hv, if_neg hv]
            exact hI'.1 v a (by omega)
        · exact RtI.fr (σ := τ2) hR2 rfl
        · exact fr_I (fr_I (hI'.2.2.1.tr (hF2.mono (by decide))) (by decide)) (by decide)
        · exact hI'.2.2.2.tr (show KA τ' τ2 from ⟨hK2.2.1, hK2.2.2.1, hK2.2.2.2⟩)
      · have hz : ∀ t, tlR ρ b t = 0 := by
          rcases hpl with q | q
          · exact q.2
          · omega
        refine e_iconst (pc' := 123) dX11_addUp_122 rfl ?_
        refine e_goto (pc' := 137) dX11_addUp_123 (by decide) ?_
        refine e_iast (pc' := 138) dX11_addUp_137 rfl h_97 (by decide) (by omega) (by omega) ?_
        refine e_aload_n (pc' := 139) dX11_addUp_138 rfl rfl ?_
        refine e_getR (pc' := 142) dX11_addUp_139 rfl f_11_39 h_88 rfl ?_
        refine e_iload_n (pc' := 143) dX11_addUp_142 rfl rfl ?_
        refine e_aload_n (pc' := 144) dX11_addUp_143 rfl rfl ?_
        refine e_getR (pc' := 147) dX11_addUp_144 rfl f_11_36 h_88 rfl ?_
        refine e_iload_n (pc' := 148) dX11_addUp_147 rfl rfl ?_
        refine e_iald (pc' := 149) (v := 0) dX11_addUp_148 rfl h_97 (by decide) (by omega) (by omega) (if_pos ⟨rfl, rfl⟩) ?_
        refine e_iast (pc' := 150) dX11_addUp_149 rfl h_98 (by decide) (by omega) (by omega) ?_
        refine e_iload_n (pc' := 151) dX11_addUp_150 rfl rfl ?_
        refine e_aload_n (pc' := 152) dX11_addUp_151 rfl rfl ?_
        refine e_getR (pc' := 155) dX11_addUp_152 rfl f_11_36 h_88 rfl ?_
        refine e_iload_n (pc' := 156) dX11_addUp_155 rfl rfl ?_
        refine e_iald (pc' := 157) (v := 0) dX11_addUp_156 rfl h_97 (by decide) (by omega) (by omega) (if_pos ⟨rfl, rfl⟩) ?_
        refine e_iadd (pc' := 158) dX11_addUp_157 rfl ?_
        refine e_istore_n (pc' := 159) (L' := [some (rv 88), some (iv (al + 0)), some (iv w), y3, y4]) dX11_addUp_158 rfl (by decide) rfl ?_
        refine e_iinc (pc' := 162) (L' := [some (rv 88), some (iv (al + 0)), some (iv (w + 1)), y3, y4]) dX11_addUp_159 rfl rfl (by decide) rfl ?_
        refine e_goto (pc' := 4) dX11_addUp_162 (by decide) ?_
        have hzu : (0 : Int) = (uaS ρ b hg hw (σ.1 100)) w := by unfold uaS; rw [if_pos (by omega), hz]
        have e97 : ∀ v, (upI (upI τ' 97 w 0) 98 w 0).1 97 v = if v = w then 0 else τ'.1 97 v := fun v => by
          by_cases hv : v = w
          · rw [if_pos hv, hv]; exact if_pos ⟨rfl, rfl⟩
          · rw [if_neg hv]; exact (if_neg (fun q => hv q.2) : (upI (upI τ' 97 w 0) 98 w 0).1 97 v = τ'.1 97 v).trans (congrFun (rfl : τ'.1 97 = τ'.1 97) v)
        have e98 : ∀ v, (upI (upI τ' 97 w 0) 98 w 0).1 98 v = if v = w then 0 else τ'.1 98 v := fun v => by
          by_cases hv : v = w
          · rw [if_pos hv, hv]; exact if_pos ⟨rfl, rfl⟩
          · rw [if_neg hv]; exact (if_neg (fun q => hv q.2) : (upI (upI τ' 97 w 0) 98 w 0).1 98 v = τ'.1 98 v).trans (congrFun (rfl : τ'.1 98 = τ'.1 98) v)
        have e99 : (upI (upI τ' 97 w 0) 98 w 0).1 99 = τ'.1 99 := rfl
        refine ih (w + 1) _ (upI (upI τ' 97 w 0) 98 w 0) _ _ (by omega) (by omega) (by omega) ?_ ⟨fun v a c => ?_, ?_, ?_, ?_⟩
        · rw [smI_s _ hw0, ← hal]
          rw [← hzu]
        · rw [e97, e98, e99]
          by_cases hv : v = w
          · rw [if_pos hv, if_pos hv, hv]
            exact ⟨hgw', hzu, hzu⟩
          · rw [if_neg hv, if_neg hv]
            exact hI'.1 v a (by omega)
        · exact RtI.fr (σ := τ') hI'.2.1 rfl
        · exact fr_I (fr_I hI'.2.2.1 (by decide)) (by decide)
        · exact hI'.2.2.2
    · have e99 : (upI (upI τ 88 13 0) 99 w 0).1 99 v = τ.1 99 v := if_neg (fun q => by have := q.2; omega)
      rw [e99]
      exact hI.1 v a c

set_option maxHeartbeats 4000000 in
set_option maxRecDepth 100000 in
theorem s_m_addUp {X : AX} {d : Nat} {σ : SG} (ρ : SG) (b : Nat) (ho : ScOK ρ b) (hP : MrP (σ.1 89) ρ b) (pl hg hw : Int) (hpl : (pl = 1 ∧ ∀ t, tlR ρ b t = 0) ∨ (pl = 0 ∧ MrR (σ.1 89) ρ b)) (hple : σ.1 88 18 = pl) (hge : σ.1 88 19 = hg) (hwe : σ.1 88 20 = hw) (hgr : -1 ≤ hg ∧ hg ≤ 4) (hwr : -1 ≤ hw ∧ hw ≤ 2) (hpt : ∀ i, 0 ≤ i → i < 4 → 0 ≤ σ.1 100 i ∧ σ.1 100 i ≤ 12) (hpu : 0 ≤ σ.1 89 55 ∧ σ.1 89 55 ≤ 200) (hR : RtI σ) : Ev X 0 0 (d + 6) mX11_addUp 0 [some (rv 88), none, none, none, none] [] σ (QV (fun σ' => (∀ w, 0 ≤ w → w < (ρ.1 b 7) → σ'.1 99 w = gfS ρ b w ∧ σ'.1 97 w = (uaS ρ b hg hw (σ.1 100)) w ∧ σ'.1 98 w = adS (ρ.1 b 11) (ρ.1 b 10) (uaS ρ b hg hw (σ.1 100)) w) ∧ RtI σ' ∧ Fr [88, 92, 93, 94, 95, 96, 97, 98, 99] σ σ' ∧ KA σ σ')) := by
  refine e_iconst (pc' := 1) dX11_addUp_0 rfl ?_
  refine e_istore_n (pc' := 2) (L' := [some (rv 88), some (iv 0), none, none, none]) dX11_addUp_1 rfl (by decide) rfl ?_
  refine e_iconst (pc' := 3) dX11_addUp_2 rfl ?_
  refine e_istore_n (pc' := 4) (L' := [some (rv 88), some (iv 0), some (iv 0), none, none]) dX11_addUp_3 rfl (by decide) rfl ?_
  exact l_addW ρ b ho hP pl hg hw hpl hple hge hwe hgr hwr hpt hpu ((ρ.1 b 7) + 1).toNat 0 0 σ _ _ (by omega) (by have := ho.2.1; omega) (by omega) rfl ⟨fun v a c => absurd c (by omega), hR, Fr.rf, KA.rf⟩
