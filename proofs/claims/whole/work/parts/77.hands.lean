/-! the reference: a gift by several hands -/
theorem see_0 (t : ST) : seeS t 0 = t := if_neg (by decide)
theorem hn_lt {f pt : Int → Int} {w g : Int} (hg : 0 ≤ g) : ∀ n : Nat, (n : Int) ≤ g → hnT f g w pt w n = saS f w g n
  | 0, _ => rfl
  | n + 1, h => by
    show (if (n : Int) = g ∧ w = w then _ else seeS (hnT f g w pt w n) (f ((n : Int) * 3 + w))) = (if (n : Int) = g then _ else seeS (saS f w g n) (f ((n : Int) * 3 + w)))
    rw [if_neg (by omega), if_neg (by omega), hn_lt hg n (by omega)]
theorem hn_move {f pt : Int → Int} {w g : Int} (hg : 0 ≤ g) : ∀ n : Nat, g < (n : Int) → hnT f g w pt w n = seeS (seeS (seeS (seeS (saS f w g n) (pt 0)) (pt 1)) (pt 2)) (pt 3)
  | 0, h => absurd h (by omega)
  | n + 1, h => by
    show (if (n : Int) = g ∧ w = w then seeS (seeS (seeS (seeS (hnT f g w pt w n) (pt 0)) (pt 1)) (pt 2)) (pt 3) else seeS (hnT f g w pt w n) (f ((n : Int) * 3 + w))) = seeS (seeS (seeS (seeS (if (n : Int) = g then saS f w g n else seeS (saS f w g n) (f ((n : Int) * 3 + w))) (pt 0)) (pt 1)) (pt 2)) (pt 3)
    by_cases e : (n : Int) = g
    · rw [if_pos ⟨e, rfl⟩, if_pos e, hn_lt hg n (by omega)]
    · rw [if_neg (fun q => e q.1), if_neg e, hn_move hg n (by omega), seeS_comm _ (pt 3), seeS_comm _ (pt 2), seeS_comm _ (pt 1), seeS_comm _ (pt 0)]
theorem hn_ne {f pt : Int → Int} {w g v : Int} (hv : ¬ v = w) : ∀ n : Nat, hnT f g w pt v n = saS f v (-1) n
  | 0 => rfl
  | n + 1 => by
    show (if (n : Int) = g ∧ v = w then _ else seeS (hnT f g w pt v n) (f ((n : Int) * 3 + v))) = (if (n : Int) = -1 then _ else seeS (saS f v (-1) n) (f ((n : Int) * 3 + v)))
    rw [if_neg (fun q => hv q.2), if_neg (by omega), hn_ne hv n]
/-- what one has by parts of his gift -/
def wvP (ρ : SG) (g w x y z : Int) : Int := hvO ρ 1 (fun v => gfS ρ 1 v + adS (ρ.1 1 11) (ρ.1 1 10) (wpS ρ g w x y z) v) (ktO ρ 1 g) g
theorem ua_wp {ρ : SG} {g w x y z : Int} {pt : Int → Int} (hg : 0 ≤ g ∧ g < ρ.1 1 6) (hw : w < ρ.1 1 7) (h0 : pt 0 = ρ.1 6 (g * 3 + w) - x - y - z) (h1 : pt 1 = x) (h2 : pt 2 = y) (h3 : pt 3 = z) (v : Int) : uaS ρ 1 g w pt v = wpS ρ g w x y z v := by
  unfold uaS wpS
  by_cases e : v = w
  · rw [if_pos e, e, if_pos hw, hn_move hg.1 _ (by omega), h0, h1, h2, h3]
    rfl
  · rw [if_neg e, hn_ne e]
    rfl
theorem wp_0 {ρ : SG} {g w : Int} (hg : 0 ≤ g ∧ g < ρ.1 1 6) (hw : w < ρ.1 1 7) (v : Int) : wpS ρ g w 0 0 0 v = wdS ρ 1 v := by
  unfold wpS
  by_cases e : v = w
  · rw [if_pos e, e, see_0, see_0, see_0]
    unfold wdS
    rw [if_pos hw]
    have q := sa_move (f := ρ.1 6) (f' := ρ.1 6) (w := w) (g := g) (x := ρ.1 6 (g * 3 + w)) rfl (fun _ _ _ => rfl) hg.1 (ρ.1 1 6).toNat (by omega)
    rw [show ρ.1 6 (g * 3 + w) - 0 - 0 - 0 = ρ.1 6 (g * 3 + w) by omega]
    unfold saI
    rw [← q]
  · rw [if_neg e]
theorem wvP_0 {ρ : SG} {g w : Int} (hg : 0 ≤ g ∧ g < ρ.1 1 6) (hw : w < ρ.1 1 7) : wvP ρ g w 0 0 0 = bfS ρ 1 g := by
  unfold wvP bfS
  rw [show wpS ρ g w 0 0 0 = wdS ρ 1 from funext (wp_0 hg hw)]
theorem wvP_pt (ρ : SG) (g w x y z : Int) : wvP ρ g w x y z = ptM ρ g w x y z + bfS ρ 1 g := by
  unfold wvP ptM
  omega
theorem wvP_rg {ρ : SG} (ho : ScOK ρ 1) (hX : ScX ρ 1) {g w x y z : Int} (hg : 0 ≤ g ∧ g < ρ.1 1 6) : 0 ≤ wvP ρ g w x y z ∧ wvP ρ g w x y z ≤ 100000 := by
  have hG := ho.1
  have hc := ho.2.2.2.2.2.2.2.2.2.2.1 g hg.1 (by omega)
  have h3 := hX.2.2 g hg.1 (by omega)
  have h4 := gv_rg ho.2.2.2.2.2.2.1 hg.1 (show g < 5 by omega)
  exact hvO_rg ho (fun v p q => by
    have h1 := gfS_rg ho v p q
    have h2 := adS_rg (md := ρ.1 1 11) ho.2.2.2.2.1 (fun v _ _ => wpS_rg ρ g w x y z v) v p q
    omega) (kt := ktO ρ 1 g) (g := g) (by unfold ktO; exact ⟨by omega, by omega⟩) ⟨hg.1, by omega⟩
def hmS (x y z : Int) : Int := if 0 < x then hnS y z else 1
def pmS (co x y z : Int) : Prop := 0 ≤ x ∧ 0 ≤ y ∧ y ≤ x ∧ 0 ≤ z ∧ z ≤ y ∧ x ≤ co - x - y - z
def BhI (W : Int → Int → Int → Int) (co : Int) (m : Int → Int) (D : Int → Int → Int → Prop) : Prop := ∀ h, 1 ≤ h → h ≤ 4 → (-1 ≤ m h ∧ m h ≤ 1000000) ∧ (∀ x y z, pmS co x y z → D x y z → hmS x y z = h → W x y z ≤ m h) ∧ (m h = -1 ∨ ∃ x y z, pmS co x y z ∧ hmS x y z = h ∧ m h = W x y z)
theorem BhI.mono {W : Int → Int → Int → Int} {co : Int} {m : Int → Int} {D D' : Int → Int → Int → Prop} (h : BhI W co m D) (hd : ∀ x y z, pmS co x y z → D' x y z → D x y z) : BhI W co m D' := fun k a b => ⟨(h k a b).1, fun x y z p q e => (h k a b).2.1 x y z p (hd x y z p q) e, (h k a b).2.2⟩
theorem hmS_rg (x y z : Int) : 1 ≤ hmS x y z ∧ hmS x y z ≤ 4 := by
  have := hnS_rg y z
  unfold hmS
  split <;> omega
theorem BhI.step {W : Int → Int → Int → Int} {co : Int} {m m' : Int → Int} {D D' : Int → Int → Int → Prop} {x y z : Int} (h : BhI W co m D) (hm : ∀ j, m' j = if j = hmS x y z then max (m j) (W x y z) else m j) (hw : 0 ≤ W x y z ∧ W x y z ≤ 1000000) (hp : pmS co x y z) (hd : ∀ a b c, D' a b c → D a b c ∨ (a = x ∧ b = y ∧ c = z)) : BhI W co m' D' := by
  intro k a b
  obtain ⟨h1, h2, h3⟩ := h k a b
  by_cases hk : k = hmS x y z
  · rw [hm k, if_pos hk]
    refine ⟨by omega, fun x' y' z' p q e => ?_, ?_⟩
    · rcases hd _ _ _ q with q | ⟨rfl, rfl, rfl⟩
      · have := h2 x' y' z' p q e; omega
      · omega
    · by_cases hc : W x y z ≤ m k
      · rw [show max (m k) (W x y z) = m k by omega]; exact h3
      · right; exact ⟨x, y, z, hp, hk.symm, by omega⟩
  · rw [hm k, if_neg hk]
    refine ⟨h1, fun x' y' z' p q e => ?_, h3⟩
    rcases hd _ _ _ q with q | ⟨rfl, rfl, rfl⟩
    · exact h2 x' y' z' p q e
    · exact absurd e.symm hk
theorem Bh_1 {ρ : SG} {g w co : Int} {m : Int → Int} (hg : 0 ≤ g ∧ g < ρ.1 1 6) (hw : w < ρ.1 1 7) (hb : 0 ≤ bfS ρ 1 g) (hco : 0 ≤ co) (h : BhI (wvP ρ g w) co m (fun _ _ _ => True)) : m 1 = bfS ρ 1 g := by
  obtain ⟨h1, h2, h3⟩ := h 1 (by decide) (by decide)
  have e0 := h2 0 0 0 ⟨by decide, by decide, by decide, by decide, by decide, by omega⟩ trivial rfl
  rw [wvP_0 hg hw] at e0
  rcases h3 with q | ⟨x, y, z, p, e, q⟩
  · omega
  · have hx : x = 0 := by
      unfold hmS at e
      have := hnS_rg y z
      unfold pmS at p
      split at e <;> omega
    unfold pmS at p
    have hy : y = 0 := by omega
    have hz : z = 0 := by omega
    subst hx hy hz
    rw [wvP_0 hg hw] at q
    exact q
theorem Bh_m {ρ : SG} {g w co : Int} {m m' : Int → Int} (hg : 0 ≤ g ∧ g < ρ.1 1 6) (hw : w < ρ.1 1 7) (hb : 0 ≤ bfS ρ 1 g) (h : BhI (wvP ρ g w) co m (fun _ _ _ => True)) (h' : PtI (ptM ρ g w) co m' (fun _ _ _ => True)) {k : Int} (hk : 2 ≤ k ∧ k ≤ 4) : m' k = max 0 (m k - bfS ρ 1 g) := by
  obtain ⟨h1, h2, h3⟩ := h k (by omega) hk.2
  obtain ⟨p1, p2, p3⟩ := h' k hk.1 hk.2
  have up : m k - bfS ρ 1 g ≤ m' k := by
    rcases h3 with q | ⟨x, y, z, p, e, q⟩
    · omega
    · have hx : 0 < x := by
        apply Classical.byContradiction
        intro r
        unfold hmS at e
        rw [if_neg r] at e
        omega
      have e2 : hnS y z = k := by unfold hmS at e; rw [if_pos hx] at e; exact e
      have := p2 x y z (by unfold pmS at p; exact ⟨by omega, by omega, by omega, by omega, by omega, by omega⟩) trivial e2
      rw [q, wvP_pt]
      omega
  rcases p3 with q | ⟨x, y, z, p, e, q⟩
  · omega
  · have e2 : hmS x y z = k := by unfold hmS; unfold PvS at p; rw [if_pos (by omega)]; exact e
    have := h2 x y z (by unfold PvS at p; exact ⟨by omega, by omega, by omega, by omega, by omega, by omega⟩) trivial e2
    rw [wvP_pt] at this
    omega

set_option maxHeartbeats 4000000 in
set_option maxRecDepth 100000 in
theorem l_m_hasNow2 {X : AX} {d : Nat} {σ : SG} (ρ : SG) (b : Nat) (ho : ScOK ρ b) (hX : ScX ρ b) (hP : MrP (σ.1 89) ρ b) (U : Int → Int) (hU : ∀ w, 0 ≤ w → w < 3 → 0 ≤ U w ∧ U w ≤ 99) (hL : LgM σ ρ b U) (g : Int) (hg : 0 ≤ g ∧ g < 5) : ∀ (k : Nat) (w cs lf : Int), 0 ≤ w → w ≤ ρ.1 b 7 → ρ.1 b 7 - w < k → cs = smI (fun w => wcS (ρ.1 (b + 2) w) (ρ.1 (b + 3) (g * 3 + w)) (ρ.1 (b + 4) (g * 3 + w)) ((fun w => gfS ρ b w + adS (ρ.1 b 11) (ρ.1 b 10) U w) w)) w → lf = ρ.1 (b + 1) g - smI (fun w => ρ.1 (b + 5) (g * 3 + w)) w → Ev X 0 0 (d + 1) mX11_hasNow 14 [some (rv 88), some (iv g), some (iv cs), some (iv lf), some (iv w)] [] σ (QI (fun r σ' => σ' = σ ∧ r = hvO ρ b (fun w => gfS ρ b w + adS (ρ.1 b 11) (ρ.1 b 10) U w) (ktO ρ b g) g)) := by
  intro k
  induction k with
  | zero => intros; omega
  | succ k ih =>
  intro w cs lf hw0 hw1 hwk hcs hlf
  have hW := ho.2.1
  refine e_iload (pc' := 16) dX11_hasNow_14 rfl rfl ?_
  refine e_aload_n (pc' := 17) dX11_hasNow_16 rfl rfl ?_
  refine e_cv0i (pc' := 20) dX11_hasNow_17 rfl k_11_84 h_88 rfl (Nat.le_of_ble_eq_true rfl) rfl rfl ⟨rfl, rfl⟩ ⟨Nat.zero_le _, Nat.zero_le _⟩ s_m_works ?_
  intro r σ' hr; rw [hr.1, hr.2, hP.1.2.1]; clear hr
  refine e_icmpI (pc' := 23) (t := 64) dX11_hasNow_20 (by decide) rfl ⟨by omega, by omega⟩ ⟨by omega, by omega⟩ (fun (c2_1 : (ρ.1 b 7) ≤ (w : Int)) => ?_) (fun (c2_1 : ¬ ((ρ.1 b 7) ≤ (w : Int))) => ?_)
  · refine e_iload_n (pc' := 65) dX11_hasNow_64 rfl rfl ?_
    refine e_aload_n (pc' := 66) dX11_hasNow_65 rfl rfl ?_
    refine e_getR (pc' := 69) dX11_hasNow_66 rfl f_11_7 h_88 rfl ?_
    refine e_bipush (pc' := 71) (z := 53) dX11_hasNow_69 rfl (by decide) ?_
    refine e_iald (pc' := 72) (v := (ρ.1 b 8)) dX11_hasNow_71 rfl h_89 (by decide) (by omega) (by omega) hP.1.2.2 ?_
    refine e_iload_n (pc' := 73) dX11_hasNow_72 rfl rfl ?_
    refine e_imul (pc' := 74) dX11_hasNow_73 rfl ?_
    refine e_iadd (pc' := 75) dX11_hasNow_74 rfl ?_
    exact e_iret dX11_hasNow_75 rfl ⟨rfl, Nat.le_refl _⟩ (by
    have hwe : w = ρ.1 b 7 := by omega
    have e1 := sm_3 (f := (fun w => wcS (ρ.1 (b + 2) w) (ρ.1 (b + 3) (g * 3 + w)) (ρ.1 (b + 4) (g * 3 + w)) ((fun w => gfS ρ b w + adS (ρ.1 b 11) (ρ.1 b 10) U w) w))) (u := (fun w => wcS (ρ.1 (b + 2) w) (ρ.1 (b + 3) (g * 3 + w)) (ρ.1 (b + 4) (g * 3 + w)) ((fun w => gfS ρ b w + adS (ρ.1 b 11) (ρ.1 b 10) U w) w))) hW (fun _ _ _ => rfl) (fun v a c => by have q := hX.2.1 g v hg.1 hg.2 (by omega) c a; dsimp only; rw [q.1, q.2]; unfold wcS; split <;> simp)
    have e2 := sm_3 (f := (fun w => ρ.1 (b + 5) (g * 3 + w))) (u := (fun w => ρ.1 (b + 5) (g * 3 + w))) hW (fun _ _ _ => rfl) (fun v a c => hX.1 g v hg.1 hg.2 (by omega) c (Or.inl a))
    rw [hwe, e1] at hcs
    rw [hwe, e2] at hlf
    refine ⟨_, rfl, rfl, ?_⟩
    rw [hcs, hlf]
    unfold hvO hvS ktO gv
    omega)
  · have hq := hL w (by omega) (by omega)
    have hgf := gfS_rg ho w (by omega) (by omega)
    have had := adS_rg (md := ρ.1 b 11) ho.2.2.2.2.1 hU w (by omega) (by omega)
    have hgft : σ.1 89 (35 + 3 * g + w) = ρ.1 (b + 5) (g * 3 + w) := by
      rw [show 35 + 3 * g + w = 35 + (g * 3 + w) by omega]
      exact (hP.2.2.2 (g * 3 + w) (by omega) (by omega)).2.2
    refine e_iload_n (pc' := 24) dX11_hasNow_23 rfl rfl ?_
    refine e_aload_n (pc' := 25) dX11_hasNow_24 rfl rfl ?_
    refine e_iload_n (pc' := 26) dX11_hasNow_25 rfl rfl ?_
    refine e_iload (pc' := 28) dX11_hasNow_26 rfl rfl ?_
    refine e_aload_n (pc' := 29) dX11_hasNow_28 rfl rfl ?_
    refine e_getR (pc' := 32) dX11_hasNow_29 rfl f_11_42 h_88 rfl ?_
    refine e_iload (pc' := 34) dX11_hasNow_32 rfl rfl ?_
    refine e_iald (pc' := 35) (v := (gfS ρ b w)) dX11_hasNow_34 rfl h_99 (by decide) (by omega) (by omega) hq.1 ?_
    refine e_aload_n (pc' := 36) dX11_hasNow_35 rfl rfl ?_
    refine e_getR (pc' := 39) dX11_hasNow_36 rfl f_11_39 h_88 rfl ?_
    refine e_iload (pc' := 41) dX11_hasNow_39 rfl rfl ?_
    refine e_iald (pc' := 42) (v := (adS (ρ.1 b 11) (ρ.1 b 10) U w)) dX11_hasNow_41 rfl h_98 (by decide) (by omega) (by omega) hq.2.2 ?_
    refine e_iadd (pc' := 43) dX11_hasNow_42 rfl ?_
    refine e_cv3i (pc' := 46) dX11_hasNow_43 rfl k_11_207 h_88 rfl (Nat.le_of_ble_eq_true rfl) rfl rfl ⟨rfl, rfl⟩ ⟨Nat.zero_le _, Nat.zero_le _⟩ (s_m_worthOf ρ b ho hP g w ((gfS ρ b w) + (adS (ρ.1 b 11) (ρ.1 b 10) U w)) hg ⟨by omega, by omega⟩ ⟨by omega, by omega⟩) ?_
    intro r σ' hr; rw [hr.1, hr.2]; clear hr
    refine e_iadd (pc' := 47) dX11_hasNow_46 rfl ?_
    refine e_istore_n (pc' := 48) (L' := [some (rv 88), some (iv g), some (iv (cs + (wcS (ρ.1 (b + 2) w) (ρ.1 (b + 3) (g * 3 + w)) (ρ.1 (b + 4) (g * 3 + w)) ((gfS ρ b w) + (adS (ρ.1 b 11) (ρ.1 b 10) U w))))), some (iv lf), some (iv w)]) dX11_hasNow_47 rfl (by decide) rfl ?_
    refine e_iload_n (pc' := 49) dX11_hasNow_48 rfl rfl ?_
    refine e_aload_n (pc' := 50) dX11_hasNow_49 rfl rfl ?_
    refine e_iload_n (pc' := 51) dX11_hasNow_50 rfl rfl ?_
    refine e_iload (pc' := 53) dX11_hasNow_51 rfl rfl ?_
    refine e_cv2i (pc' := 56) dX11_hasNow_53 rfl k_11_186 h_88 rfl (Nat.le_of_ble_eq_true rfl) rfl rfl ⟨rfl, rfl⟩ ⟨Nat.zero_le _, Nat.zero_le _⟩ (s_m_gift g w (by omega) (by omega)) ?_
    intro r σ' hr; rw [hr.1, hr.2, show σ.1 89 (35 + 3 * g + w) = ρ.1 (b + 5) (g * 3 + w) from hgft]; clear hr
    refine e_isub (pc' := 57) dX11_hasNow_56 rfl ?_
    refine e_istore_n (pc' := 58) (L' := [some (rv 88), some (iv g), some (iv (cs + (wcS (ρ.1 (b + 2) w) (ρ.1 (b + 3) (g * 3 + w)) (ρ.1 (b + 4) (g * 3 + w)) ((gfS ρ b w) + (adS (ρ.1 b 11) (ρ.1 b 10) U w))))), some (iv (lf - (ρ.1 (b + 5) (g * 3 + w)))), some (iv w)]) dX11_hasNow_57 rfl (by decide) rfl ?_
    refine e_iinc (pc' := 61) (L' := [some (rv 88), some (iv g), some (iv (cs + (wcS (ρ.1 (b + 2) w) (ρ.1 (b + 3) (g * 3 + w)) (ρ.1 (b + 4) (g * 3 + w)) ((gfS ρ b w) + (adS (ρ.1 b 11) (ρ.1 b 10) U w))))), some (iv (lf - (ρ.1 (b + 5) (g * 3 + w)))), some (iv (w + 1))]) dX11_hasNow_58 rfl rfl (by decide) rfl ?_
    refine e_goto (pc' := 14) dX11_hasNow_61 (by decide) ?_
    exact ih _ _ _ (by omega) (by omega) (by omega) (by rw [smI_s _ hw0, hcs]) (by rw [smI_s _ hw0, hlf]; omega)

set_option maxHeartbeats 4000000 in
set_option maxRecDepth 100000 in
theorem s_m_hasNow2 {X : AX} {d : Nat} {σ : SG} (ρ : SG) (b : Nat) (ho : ScOK ρ b) (hX : ScX ρ b) (hP : MrP (σ.1 89) ρ b) (U : Int → Int) (hU : ∀ w, 0 ≤ w → w < 3 → 0 ≤ U w ∧ U w ≤ 99) (hL : LgM σ ρ b U) (g : Int) (hg : 0 ≤ g ∧ g < 5) : Ev X 0 0 (d + 1) mX11_hasNow 0 [some (rv 88), some (iv g), none, none, none] [] σ (QI (fun r σ' => σ' = σ ∧ r = hvO ρ b (fun w => gfS ρ b w + adS (ρ.1 b 11) (ρ.1 b 10) U w) (ktO ρ b g) g)) := by
  have hW := ho.2.1
  have hcn : σ.1 89 (0 + g) = ρ.1 (b + 1) g := by rw [show 0 + g = g by omega]; exact hP.2.1 g hg.1 hg.2
  refine e_iconst (pc' := 1) dX11_hasNow_0 rfl ?_
  refine e_istore_n (pc' := 2) (L' := [some (rv 88), some (iv g), some (iv 0), none, none]) dX11_hasNow_1 rfl (by decide) rfl ?_
  refine e_aload_n (pc' := 3) dX11_hasNow_2 rfl rfl ?_
  refine e_getR (pc' := 6) dX11_hasNow_3 rfl f_11_7 h_88 rfl ?_
  refine e_iconst (pc' := 7) dX11_hasNow_6 rfl ?_
  refine e_iload_n (pc' := 8) dX11_hasNow_7 rfl rfl ?_
  refine e_iadd (pc' := 9) dX11_hasNow_8 rfl ?_
  refine e_iald (pc' := 10) (v := (ρ.1 (b + 1) g)) dX11_hasNow_9 rfl h_89 (by decide) (by omega) (by omega) hcn ?_
  refine e_istore_n (pc' := 11) (L' := [some (rv 88), some (iv g), some (iv 0), some (iv (ρ.1 (b + 1) g)), none]) dX11_hasNow_10 rfl (by decide) rfl ?_
  refine e_iconst (pc' := 12) dX11_hasNow_11 rfl ?_
  refine e_istore (pc' := 14) (L' := [some (rv 88), some (iv g), some (iv 0), some (iv (ρ.1 (b + 1) g)), some (iv 0)]) dX11_hasNow_12 rfl (by decide) rfl ?_
  exact l_m_hasNow2 ρ b ho hX hP U hU hL g hg (ρ.1 b 7 + 1).toNat 0 0 _ (by omega) (by omega) (by omega) rfl (by show _ = ρ.1 (b + 1) g - 0; omega)

set_option maxHeartbeats 4000000 in
set_option maxRecDepth 100000 in
theorem l_fhZ {X : AX} {d : Nat} {σ ρ : SG} {Q : Option AV → SG → Prop} (h : MdI σ ρ 1) (hR : MrR (σ.1 89) ρ 1) (hpl0 : σ.1 88 18 = 0) (g w : Int) (hg : 0 ≤ g ∧ g < (ρ.1 1 6)) (hw : 0 ≤ w ∧ w < (ρ.1 1 7)) (x y : Int) (hx : 0 ≤ x ∧ x ≤ 12) (hy : 0 ≤ y ∧ y ≤ x) (hK : ∀ (τ : SG) (y6 y7 y8 y9 : Option AV), (Fr [88, 92, 93, 94, 95, 96, 97, 98, 99, 100, 106] σ τ ∧ (τ.1 88 18 = 0 ∧ τ.1 88 19 = g ∧ τ.1 88 20 = w) ∧ RtI τ ∧ ∀ i, 0 ≤ i → i < 4 → 0 ≤ τ.1 100 i ∧ τ.1 100 i ≤ 12) → BhI (wvP ρ g w) (ρ.1 6 (g * 3 + w)) (τ.1 106) (DnS x (y + 1) 0) → Ev X 0 0 (d + 7) mX11_findHands 225 [some (rv 88), some (iv g), some (iv w), some (iv (ρ.1 6 (g * 3 + w))), some (iv x), some (iv y), y6, y7, y8, y9] [] τ Q) : ∀ (k : Nat) (z : Int) (τ : SG) (x7 x8 x9 : Option AV), 0 ≤ z → z ≤ 13 → 13 - z < k → (Fr [88, 92, 93, 94, 95, 96, 97, 98, 99, 100, 106] σ τ ∧ (τ.1 88 18 = 0 ∧ τ.1 88 19 = g ∧ τ.1 88 20 = w) ∧ RtI τ ∧ ∀ i, 0 ≤ i → i < 4 → 0 ≤ τ.1 100 i ∧ τ.1 100 i ≤ 12) → BhI (wvP ρ g w) (ρ.1 6 (g * 3 + w)) (τ.1 106) (DnS x y z) → Ev X 0 0 (d + 7) mX11_findHands 71 [some (rv 88), some (iv g), some (iv w), some (iv (ρ.1 6 (g * 3 + w))), some (iv x), some (iv y), some (iv z), x7, x8, x9] [] τ Q := by
  intro k
  induction k with
  | zero => intros; omega
  | succ k ih =>
  intro z τ x7 x8 x9 hz0 hz1 hzk hS hI
  have ho := h.1
  have hX := h.2.1
  have hG := ho.1
  have hW := ho.2.1
  have hcor : 0 ≤ (ρ.1 6 (g * 3 + w)) ∧ (ρ.1 6 (g * 3 + w)) ≤ 12 := ho.2.2.2.2.2.2.1 (g * 3 + w) (by omega) (by omega)
  refine e_iload (pc' := 73) dX11_findHands_71 rfl rfl ?_
  refine e_iload (pc' := 75) dX11_findHands_73 rfl rfl ?_
  refine e_icmpI (pc' := 78) (t := 225) dX11_findHands_75 (by decide) rfl ⟨by omega, by omega⟩ ⟨by omega, by omega⟩ (fun (c2_1 : y < (z : Int)) => ?_) (fun (c2_1 : ¬ (y < (z : Int))) => ?_)
  · exact hK τ _ _ _ _ hS (hI.mono (fun a b c p q => by unfold DnS pmS at *; omega))
  · refine e_iload (pc' := 80) dX11_findHands_78 rfl rfl ?_
    refine e_iload (pc' := 82) dX11_findHands_80 rfl rfl ?_
    refine e_iadd (pc' := 83) dX11_findHands_82 rfl ?_
    refine e_iload (pc' := 85) dX11_findHands_83 rfl rfl ?_
    refine e_iadd (pc' := 86) dX11_findHands_85 rfl ?_
    refine e_iload_n (pc' := 87) dX11_findHands_86 rfl rfl ?_
    refine e_icmpI (pc' := 90) (t := 225) dX11_findHands_87 (by decide) rfl ⟨by omega, by omega⟩ ⟨by omega, by omega⟩ (fun (c4_2 : (ρ.1 6 (g * 3 + w)) < (((x + y) + z) : Int)) => ?_) (fun (c4_2 : ¬ ((ρ.1 6 (g * 3 + w)) < (((x + y) + z) : Int))) => ?_)
    · exact hK τ _ _ _ _ hS (hI.mono (fun a b c p q => by unfold DnS pmS at *; omega))
    · refine e_iload_n (pc' := 91) dX11_findHands_90 rfl rfl ?_
      refine e_iload (pc' := 93) dX11_findHands_91 rfl rfl ?_
      refine e_isub (pc' := 94) dX11_findHands_93 rfl ?_
      refine e_iload (pc' := 96) dX11_findHands_94 rfl rfl ?_
      refine e_isub (pc' := 97) dX11_findHands_96 rfl ?_
      refine e_iload (pc' := 99) dX11_findHands_97 rfl rfl ?_
      refine e_isub (pc' := 100) dX11_findHands_99 rfl ?_
      refine e_istore (pc' := 102) (L' := [some (rv 88), some (iv g), some (iv w), some (iv (ρ.1 6 (g * 3 + w))), some (iv x), some (iv y), some (iv z), some (iv ((((ρ.1 6 (g * 3 + w)) - x) - y) - z)), x8, x9]) dX11_findHands_100 rfl (by decide) rfl ?_
      refine e_iload (pc' := 104) dX11_findHands_102 rfl rfl ?_
      refine e_iload (pc' := 106) dX11_findHands_104 rfl rfl ?_
      refine e_icmpI (pc' := 109) (t := 219) dX11_findHands_106 (by decide) rfl ⟨by omega, by omega⟩ ⟨by omega, by omega⟩ (fun (c6_3 : (((((ρ.1 6 (g * 3 + w)) - x) - y) - z) : Int) < x) => ?_) (fun (c6_3 : ¬ ((((((ρ.1 6 (g * 3 + w)) - x) - y) - z) : Int) < x)) => ?_)
      · refine e_iinc (pc' := 222) (L' := [some (rv 88), some (iv g), some (iv w), some (iv (ρ.1 6 (g * 3 + w))), some (iv x), some (iv y), some (iv (z + 1)), some (iv ((((ρ.1 6 (g * 3 + w)) - x) - y) - z)), x8, x9]) dX11_findHands_219 rfl rfl (by decide) rfl ?_
        refine e_goto (pc' := 71) dX11_findHands_222 (by decide) ?_
        exact ih (z + 1) τ _ _ _ (by omega) (by omega) (by omega) hS (hI.mono (fun a b c p q => by unfold DnS pmS at *; omega))
      · refine e_aload_n (pc' := 110) dX11_findHands_109 rfl rfl ?_
        refine e_getR (pc' := 113) dX11_findHands_110 rfl f_11_52 h_88 rfl ?_
        refine e_iconst (pc' := 114) dX11_findHands_113 rfl ?_
        refine e_iload (pc' := 116) dX11_findHands_114 rfl rfl ?_
        refine e_iast (pc' := 117) dX11_findHands_116 rfl h_100 (by decide) (by omega) (by omega) ?_
        refine e_aload_n (pc' := 118) dX11_findHands_117 rfl rfl ?_
        refine e_getR (pc' := 121) dX11_findHands_118 rfl f_11_52 h_88 rfl ?_
        refine e_iconst (pc' := 122) dX11_findHands_121 rfl ?_
        refine e_iload (pc' := 124) dX11_findHands_122 rfl rfl ?_
        refine e_iast (pc' := 125) dX11_findHands_124 rfl h_100 (by decide) (by omega) (by omega) ?_
        refine e_aload_n (pc' := 126) dX11_findHands_125 rfl rfl ?_
        refine e_getR (pc' := 129) dX11_findHands_126 rfl f_11_52 h_88 rfl ?_
        refine e_iconst (pc' := 130) dX11_findHands_129 rfl ?_
        refine e_iload (pc' := 132) dX11_findHands_130 rfl rfl ?_
        refine e_iast (pc' := 133) dX11_findHands_132 rfl h_100 (by decide) (by omega) (by omega) ?_
        refine e_aload_n (pc' := 134) dX11_findHands_133 rfl rfl ?_
        refine e_getR (pc' := 137) dX11_findHands_134 rfl f_11_52 h_88 rfl ?_
        refine e_iconst (pc' := 138) dX11_findHands_137 rfl ?_
        refine e_iload (pc' := 140) dX11_findHands_138 rfl rfl ?_
        refine e_iast (pc' := 141) dX11_findHands_140 rfl h_100 (by decide) (by omega) (by omega) ?_
        refine e_iconst (pc' := 142) dX11_findHands_141 rfl ?_
        refine e_iload (pc' := 144) dX11_findHands_142 rfl rfl ?_
        refine e_ifI (pc' := 147) (t := 151) dX11_findHands_144 (by decide) rfl ⟨by omega, by omega⟩ (fun (c8_4 : (x : Int) ≤ 0) => ?_) (fun (c8_4 : ¬ ((x : Int) ≤ 0)) => ?_)
        · refine e_iconst (pc' := 152) dX11_findHands_151 rfl ?_
          refine e_iadd (pc' := 153) dX11_findHands_152 rfl ?_
          refine e_iload (pc' := 155) dX11_findHands_153 rfl rfl ?_
          refine e_ifI (pc' := 158) (t := 162) dX11_findHands_155 (by decide) rfl ⟨by omega, by omega⟩ (fun (c10_5 : (y : Int) ≤ 0) => ?_) (fun (c10_5 : ¬ ((y : Int) ≤ 0)) => ?_)
          · refine e_iconst (pc' := 163) dX11_findHands_162 rfl ?_
            refine e_iadd (pc' := 164) dX11_findHands_163 rfl ?_
            refine e_iload (pc' := 166) dX11_findHands_164 rfl rfl ?_
            refine e_ifI (pc' := 169) (t := 173) dX11_findHands_166 (by decide) rfl ⟨by omega, by omega⟩ (fun (c12_6 : (z : Int) ≤ 0) => ?_) (fun (c12_6 : ¬ ((z : Int) ≤ 0)) => ?_)
            · refine e_iconst (pc' := 174) dX11_findHands_173 rfl ?_
              refine e_iadd (pc' := 175) dX11_findHands_174 rfl ?_
              have hhe : (((1 + 0) + 0) + 0) = hmS x y z := by unfold hmS hnS; (repeat' split) <;> omega
              rw [hhe]
              have hmr := hmS_rg x y z
              refine e_istore (pc' := 177) (L' := [some (rv 88), some (iv g), some (iv w), some (iv (ρ.1 6 (g * 3 + w))), some (iv x), some (iv y), some (iv z), some (iv ((((ρ.1 6 (g * 3 + w)) - x) - y) - z)), some (iv (hmS x y z)), x9]) dX11_findHands_175 rfl (by decide) rfl ?_
              have hptr : ∀ i, 0 ≤ i → i < 4 → 0 ≤ ((upI (upI (upI (upI τ 100 0 ((((ρ.1 6 (g * 3 + w)) - x) - y) - z)) 100 1 x) 100 2 y) 100 3 z)).1 100 i ∧ ((upI (upI (upI (upI τ 100 0 ((((ρ.1 6 (g * 3 + w)) - x) - y) - z)) 100 1 x) 100 2 y) 100 3 z)).1 100 i ≤ 12 := by
                intro i p q
                rcases (show i = 0 ∨ i = 1 ∨ i = 2 ∨ i = 3 by omega) with rfl | rfl | rfl | rfl
                · show 0 ≤ (ρ.1 6 (g * 3 + w)) - x - y - z ∧ (ρ.1 6 (g * 3 + w)) - x - y - z ≤ 12; omega
                · show 0 ≤ x ∧ x ≤ 12; omega
                · show 0 ≤ y ∧ y ≤ 12; omega
                · show 0 ≤ z ∧ z ≤ 12; omega
              refine e_aload_n (pc' := 178) dX11_findHands_177 rfl rfl ?_
              refine e_cv0v (pc' := 181) dX11_findHands_178 rfl k_11_211 h_88 rfl (Nat.le_of_ble_eq_true rfl) rfl rfl ⟨rfl, rfl⟩ ⟨Nat.zero_le _, Nat.zero_le _⟩ (s_m_addUp (σ := (upI (upI (upI (upI τ 100 0 ((((ρ.1 6 (g * 3 + w)) - x) - y) - z)) 100 1 x) 100 2 y) 100 3 z)) ρ 1 ho (by rw [show ((upI (upI (upI (upI τ 100 0 ((((ρ.1 6 (g * 3 + w)) - x) - y) - z)) 100 1 x) 100 2 y) 100 3 z)).1 89 = σ.1 89 from (hS.1 89 (by decide)).1]; exact h.2.2.1) 0 g w (Or.inr ⟨rfl, by rw [show ((upI (upI (upI (upI τ 100 0 ((((ρ.1 6 (g * 3 + w)) - x) - y) - z)) 100 1 x) 100 2 y) 100 3 z)).1 89 = σ.1 89 from (hS.1 89 (by decide)).1]; exact hR⟩) hS.2.1.1 hS.2.1.2.1 hS.2.1.2.2 ⟨by omega, by omega⟩ ⟨by omega, by omega⟩ hptr (by rw [show ((upI (upI (upI (upI τ 100 0 ((((ρ.1 6 (g * 3 + w)) - x) - y) - z)) 100 1 x) 100 2 y) 100 3 z)).1 89 = σ.1 89 from (hS.1 89 (by decide)).1]; exact h.2.2.2.2.2.1) (RtI.fr (σ := τ) hS.2.2.1 rfl)) ?_
              rintro τ2 ⟨hA2, hR2, hE2, hK2⟩
              have hU : ∀ v, uaS ρ 1 g w (((upI (upI (upI (upI τ 100 0 ((((ρ.1 6 (g * 3 + w)) - x) - y) - z)) 100 1 x) 100 2 y) 100 3 z)).1 100) v = wpS ρ g w x y z v := ua_wp hg hw.2 rfl rfl rfl rfl
              have hL2 : LgM τ2 ρ 1 (wpS ρ g w x y z) := by
                intro v a c
                have q := hA2 v a c
                rw [show uaS ρ 1 g w (((upI (upI (upI (upI τ 100 0 ((((ρ.1 6 (g * 3 + w)) - x) - y) - z)) 100 1 x) 100 2 y) 100 3 z)).1 100) = wpS ρ g w x y z from funext hU] at q
                exact q
              have hP2 : MrP (τ2.1 89) ρ 1 := by rw [(hE2 89 (by decide)).1, show ((upI (upI (upI (upI τ 100 0 ((((ρ.1 6 (g * 3 + w)) - x) - y) - z)) 100 1 x) 100 2 y) 100 3 z)).1 89 = σ.1 89 from (hS.1 89 (by decide)).1]; exact h.2.2.1
              have hvr := wvP_rg ho hX (g := g) (w := w) (x := x) (y := y) (z := z) hg
              have hb2 : τ2.1 106 = τ.1 106 := (hE2 106 (by decide)).1
              have hbr := (hI (hmS x y z) hmr.1 hmr.2).1
              refine e_aload_n (pc' := 182) dX11_findHands_181 rfl rfl ?_
              refine e_iload_n (pc' := 183) dX11_findHands_182 rfl rfl ?_
              refine e_cv1i (pc' := 186) dX11_findHands_183 rfl k_11_214 h_88 rfl (Nat.le_of_ble_eq_true rfl) rfl rfl ⟨rfl, rfl⟩ ⟨Nat.zero_le _, Nat.zero_le _⟩ (s_m_hasNow2 ρ 1 ho hX hP2 (wpS ρ g w x y z) (fun v _ _ => wpS_rg _ _ _ _ _ _ _) hL2 g ⟨hg.1, by omega⟩) ?_
              intro r σ' hr; rw [hr.1, hr.2]; clear hr
              refine e_istore (pc' := 188) (L' := [some (rv 88), some (iv g), some (iv w), some (iv (ρ.1 6 (g * 3 + w))), some (iv x), some (iv y), some (iv z), some (iv ((((ρ.1 6 (g * 3 + w)) - x) - y) - z)), some (iv (hmS x y z)), some (iv (wvP ρ g w x y z))]) dX11_findHands_186 rfl (by decide) rfl ?_
              refine e_aload_n (pc' := 189) dX11_findHands_188 rfl rfl ?_
              refine e_getR (pc' := 192) dX11_findHands_189 rfl f_11_70 h_88 rfl ?_
              refine e_iload (pc' := 194) dX11_findHands_192 rfl rfl ?_
              refine e_iload (pc' := 196) dX11_findHands_194 rfl rfl ?_
              refine e_aload_n (pc' := 197) dX11_findHands_196 rfl rfl ?_
              refine e_getR (pc' := 200) dX11_findHands_197 rfl f_11_70 h_88 rfl ?_
              refine e_iload (pc' := 202) dX11_findHands_200 rfl rfl ?_
              refine e_iald (pc' := 203) (v := (τ.1 106 (hmS x y z))) dX11_findHands_202 rfl h_106 (by decide) (by omega) (by omega) (congrFun hb2 _) ?_
              refine e_icmpI (pc' := 206) (t := 211) dX11_findHands_203 (by decide) rfl ⟨by omega, by omega⟩ ⟨by omega, by omega⟩ (fun (c14_7 : ((wvP ρ g w x y z) : Int) ≤ (τ.1 106 (hmS x y z))) => ?_) (fun (c14_7 : ¬ (((wvP ρ g w x y z) : Int) ≤ (τ.1 106 (hmS x y z)))) => ?_)
              · refine e_aload_n (pc' := 212) dX11_findHands_211 rfl rfl ?_
                refine e_getR (pc' := 215) dX11_findHands_212 rfl f_11_70 h_88 rfl ?_
                refine e_iload (pc' := 217) dX11_findHands_215 rfl rfl ?_
                refine e_iald (pc' := 218) (v := (τ.1 106 (hmS x y z))) dX11_findHands_217 rfl h_106 (by decide) (by omega) (by omega) (congrFun hb2 _) ?_
                refine e_iast (pc' := 219) dX11_findHands_218 rfl h_106 (by decide) (by omega) (by omega) ?_
                refine e_iinc (pc' := 222) (L' := [some (rv 88), some (iv g), some (iv w), some (iv (ρ.1 6 (g * 3 + w))), some (iv x), some (iv y), some (iv (z + 1)), some (iv ((((ρ.1 6 (g * 3 + w)) - x) - y) - z)), some (iv (hmS x y z)), some (iv (wvP ρ g w x y z))]) dX11_findHands_219 rfl rfl (by decide) rfl ?_
                refine e_goto (pc' := 71) dX11_findHands_222 (by decide) ?_
                have hm : ∀ j, ((upI τ2 106 (hmS x y z) (τ.1 106 (hmS x y z)))).1 106 j = if j = hmS x y z then max (τ.1 106 j) (wvP ρ g w x y z) else τ.1 106 j := by
                  intro j
                  by_cases hj : j = hmS x y z
                  · rw [if_pos hj, hj]
                    refine (if_pos ⟨rfl, rfl⟩ : ((upI τ2 106 (hmS x y z) (τ.1 106 (hmS x y z)))).1 106 (hmS x y z) = (τ.1 106 (hmS x y z))).trans ?_
                    omega
                  · rw [if_neg hj]
                    exact (if_neg (fun q => hj q.2) : ((upI τ2 106 (hmS x y z) (τ.1 106 (hmS x y z)))).1 106 j = τ2.1 106 j).trans (congrFun hb2 j)
                refine ih (z + 1) (upI τ2 106 (hmS x y z) (τ.1 106 (hmS x y z))) _ _ _ (by omega) (by omega) (by omega) ⟨?_, ?_, ?_, ?_⟩ (hI.step hm ⟨hvr.1, by omega⟩ ⟨by omega, by omega, by omega, by omega, by omega, by omega⟩ (fun a b c q => by unfold DnS at *; omega))
                · exact fr_I ((fr_I (fr_I (fr_I (fr_I hS.1 (by decide)) (by decide)) (by decide)) (by decide)).tr (hE2.mono (by decide))) (by decide)
                · exact ⟨hK2.1.trans hS.2.1.1, hK2.2.1.trans hS.2.1.2.1, hK2.2.2.trans hS.2.1.2.2⟩
                · exact RtI.fr (σ := τ2) hR2 rfl
                · intro i p q
                  have e100 : ((upI τ2 106 (hmS x y z) (τ.1 106 (hmS x y z)))).1 100 = ((upI (upI (upI (upI τ 100 0 ((((ρ.1 6 (g * 3 + w)) - x) - y) - z)) 100 1 x) 100 2 y) 100 3 z)).1 100 := (hE2 100 (by decide)).1
                  rw [e100]
                  exact hptr i p q
              · refine e_iload (pc' := 208) dX11_findHands_206 rfl rfl ?_
                refine e_goto (pc' := 218) dX11_findHands_208 (by decide) ?_
                refine e_iast (pc' := 219) dX11_findHands_218 rfl h_106 (by decide) (by omega) (by omega) ?_
                refine e_iinc (pc' := 222) (L' := [some (rv 88), some (iv g), some (iv w), some (iv (ρ.1 6 (g * 3 + w))), some (iv x), some (iv y), some (iv (z + 1)), some (iv ((((ρ.1 6 (g * 3 + w)) - x) - y) - z)), some (iv (hmS x y z)), some (iv (wvP ρ g w x y z))]) dX11_findHands_219 rfl rfl (by decide) rfl ?_
                refine e_goto (pc' := 71) dX11_findHands_222 (by decide) ?_
                have hm : ∀ j, ((upI τ2 106 (hmS x y z) (wvP ρ g w x y z))).1 106 j = if j = hmS x y z then max (τ.1 106 j) (wvP ρ g w x y z) else τ.1 106 j := by
                  intro j
                  by_cases hj : j = hmS x y z
                  · rw [if_pos hj, hj]
                    refine (if_pos ⟨rfl, rfl⟩ : ((upI τ2 106 (hmS x y z) (wvP ρ g w x y z))).1 106 (hmS x y z) = (wvP ρ g w x y z)).trans ?_
                    omega
                  · rw [if_neg hj]
                    exact (if_neg (fun q => hj q.2) : ((upI τ2 106 (hmS x y z) (wvP ρ g w x y z))).1 106 j = τ2.1 106 j).trans (congrFun hb2 j)
                refine ih (z + 1) (upI τ2 106 (hmS x y z) (wvP ρ g w x y z)) _ _ _ (by omega) (by omega) (by omega) ⟨?_, ?_, ?_, ?_⟩ (hI.step hm ⟨hvr.1, by omega⟩ ⟨by omega, by omega, by omega, by omega, by omega, by omega⟩ (fun a b c q => by unfold DnS at *; omega))
                · exact fr_I ((fr_I (fr_I (fr_I (fr_I hS.1 (by decide)) (by decide)) (by decide)) (by decide)).tr (hE2.mono (by decide))) (by decide)
                · exact ⟨hK2.1.trans hS.2.1.1, hK2.2.1.trans hS.2.1.2.1, hK2.2.2.trans hS.2.1.2.2⟩
                · exact RtI.fr (σ := τ2) hR2 rfl
                · intro i p q
                  have e100 : ((upI τ2 106 (hmS x y z) (wvP ρ g w x y z))).1 100 = ((upI (upI (upI (upI τ 100 0 ((((ρ.1 6 (g * 3 + w)) - x) - y) - z)) 100 1 x) 100 2 y) 100 3 z)).1 100 := (hE2 100 (by decide)).1
                  rw [e100]
                  exact hptr i p q
            · refine e_iconst (pc' := 170) dX11_findHands_169 rfl ?_
              refine e_goto (pc' := 174) dX11_findHands_170 (by decide) ?_
              refine e_iadd (pc' := 175) dX11_findHands_174 rfl ?_
              have hhe : (((1 + 0) + 0) + 1) = hmS x y z := by unfold hmS hnS; (repeat' split) <;> omega
              rw [hhe]
              have hmr := hmS_rg x y z
              refine e_istore (pc' := 177) (L' := [some (rv 88), some (iv g), some (iv w), some (iv (ρ.1 6 (g * 3 + w))), some (iv x), some (iv y), some (iv z), some (iv ((((ρ.1 6 (g * 3 + w)) - x) - y) - z)), some (iv (hmS x y z)), x9]) dX11_findHands_175 rfl (by decide) rfl ?_
              have hptr : ∀ i, 0 ≤ i → i < 4 → 0 ≤ ((upI (upI (upI (upI τ 100 0 ((((ρ.1 6 (g * 3 + w)) - x) - y) - z)) 100 1 x) 100 2 y) 100 3 z)).1 100 i ∧ ((upI (upI (upI (upI τ 100 0 ((((ρ.1 6 (g * 3 + w)) - x) - y) - z)) 100 1 x) 100 2 y) 100 3 z)).1 100 i ≤ 12 := by
                intro i p q
                rcases (show i = 0 ∨ i = 1 ∨ i = 2 ∨ i = 3 by omega) with rfl | rfl | rfl | rfl
                · show 0 ≤ (ρ.1 6 (g * 3 + w)) - x - y - z ∧ (ρ.1 6 (g * 3 + w)) - x - y - z ≤ 12; omega
                · show 0 ≤ x ∧ x ≤ 12; omega
                · show 0 ≤ y ∧ y ≤ 12; omega
                · show 0 ≤ z ∧ z ≤ 12; omega
              refine e_aload_n (pc' := 178) dX11_findHands_177 rfl rfl ?_
              refine e_cv0v (pc' := 181) dX11_findHands_178 rfl k_11_211 h_88 rfl (Nat.le_of_ble_eq_true rfl) rfl rfl ⟨rfl, rfl⟩ ⟨Nat.zero_le _, Nat.zero_le _⟩ (s_m_addUp (σ := (upI (upI (upI (upI τ 100 0 ((((ρ.1 6 (g * 3 + w)) - x) - y) - z)) 100 1 x) 100 2 y) 100 3 z)) ρ 1 ho (by rw [show ((upI (upI (upI (upI τ 100 0 ((((ρ.1 6 (g * 3 + w)) - x) - y) - z)) 100 1 x) 100 2 y) 100 3 z)).1 89 = σ.1 89 from (hS.1 89 (by decide)).1]; exact h.2.2.1) 0 g w (Or.inr ⟨rfl, by rw [show ((upI (upI (upI (upI τ 100 0 ((((ρ.1 6 (g * 3 + w)) - x) - y) - z)) 100 1 x) 100 2 y) 100 3 z)).1 89 = σ.1 89 from (hS.1 89 (by decide)).1]; exact hR⟩) hS.2.1.1 hS.2.1.2.1 hS.2.1.2.2 ⟨by omega, by omega⟩ ⟨by omega, by omega⟩ hptr (by rw [show ((upI (upI (upI (upI τ 100 0 ((((ρ.1 6 (g * 3 + w)) - x) - y) - z)) 100 1 x) 100 2 y) 100 3 z)).1 89 = σ.1 89 from (hS.1 89 (by decide)).1]; exact h.2.2.2.2.2.1) (RtI.fr (σ := τ) hS.2.2.1 rfl)) ?_
              rintro τ2 ⟨hA2, hR2, hE2, hK2⟩
              have hU : ∀ v, uaS ρ 1 g w (((upI (upI (upI (upI τ 100 0 ((((ρ.1 6 (g * 3 + w)) - x) - y) - z)) 100 1 x) 100 2 y) 100 3 z)).1 100) v = wpS ρ g w x y z v := ua_wp hg hw.2 rfl rfl rfl rfl
              have hL2 : LgM τ2 ρ 1 (wpS ρ g w x y z) := by
                intro v a c
                have q := hA2 v a c
                rw [show uaS ρ 1 g w (((upI (upI (upI (upI τ 100 0 ((((ρ.1 6 (g * 3 + w)) - x) - y) - z)) 100 1 x) 100 2 y) 100 3 z)).1 100) = wpS ρ g w x y z from funext hU] at q
                exact q
              have hP2 : MrP (τ2.1 89) ρ 1 := by rw [(hE2 89 (by decide)).1, show ((upI (upI (upI (upI τ 100 0 ((((ρ.1 6 (g * 3 + w)) - x) - y) - z)) 100 1 x) 100 2 y) 100 3 z)).1 89 = σ.1 89 from (hS.1 89 (by decide)).1]; exact h.2.2.1
              have hvr := wvP_rg ho hX (g := g) (w := w) (x := x) (y := y) (z := z) hg
              have hb2 : τ2.1 106 = τ.1 106 := (hE2 106 (by decide)).1
              have hbr := (hI (hmS x y z) hmr.1 hmr.2).1
              refine e_aload_n (pc' := 182) dX11_findHands_181 rfl rfl ?_
              refine e_iload_n (pc' := 183) dX11_findHands_182 rfl rfl ?_
              refine e_cv1i (pc' := 186) dX11_findHands_183 rfl k_11_214 h_88 rfl (Nat.le_of_ble_eq_true rfl) rfl rfl ⟨rfl, rfl⟩ ⟨Nat.zero_le _, Nat.zero_le _⟩ (s_m_hasNow2 ρ 1 ho hX hP2 (wpS ρ g w x y z) (fun v _ _ => wpS_rg _ _ _ _ _ _ _) hL2 g ⟨hg.1, by omega⟩) ?_
              intro r σ' hr; rw [hr.1, hr.2]; clear hr
              refine e_istore (pc' := 188) (L' := [some (rv 88), some (iv g), some (iv w), some (iv (ρ.1 6 (g * 3 + w))), some (iv x), some (iv y), some (iv z), some (iv ((((ρ.1 6 (g * 3 + w)) - x) - y) - z)), some (iv (hmS x y z)), some (iv (wvP ρ g w x y z))]) dX11_findHands_186 rfl (by decide) rfl ?_
              refine e_aload_n (pc' := 189) dX11_findHands_188 rfl rfl ?_
              refine e_getR (pc' := 192) dX11_findHands_189 rfl f_11_70 h_88 rfl ?_
              refine e_iload (pc' := 194) dX11_findHands_192 rfl rfl ?_
              refine e_iload (pc' := 196) dX11_findHands_194 rfl rfl ?_
              refine e_aload_n (pc' := 197) dX11_findHands_196 rfl rfl ?_
              refine e_getR (pc' := 200) dX11_findHands_197 rfl f_11_70 h_88 rfl ?_
              refine e_iload (pc' := 202) dX11_findHands_200 rfl rfl ?_
              refine e_iald (pc' := 203) (v := (τ.1 106 (hmS x y z))) dX11_findHands_202 rfl h_106 (by decide) (by omega) (by omega) (congrFun hb2 _) ?_
              refine e_icmpI (pc' := 206) (t := 211) dX11_findHands_203 (by decide) rfl ⟨by omega, by omega⟩ ⟨by omega, by omega⟩ (fun (c14_7 : ((wvP ρ g w x y z) : Int) ≤ (τ.1 106 (hmS x y z))) => ?_) (fun (c14_7 : ¬ (((wvP ρ g w x y z) : Int) ≤ (τ.1 106 (hmS x y z)))) => ?_)
              · refine e_aload_n (pc' := 212) dX11_findHands_211 rfl rfl ?_
                refine e_getR (pc' := 215) dX11_findHands_212 rfl f_11_70 h_88 rfl ?_
                refine e_iload (pc' := 217) dX11_findHands_215 rfl rfl ?_
                refine e_iald (pc' := 218) (v := (τ.1 106 (hmS x y z))) dX11_findHands_217 rfl h_106 (by decide) (by omega) (by omega) (congrFun hb2 _) ?_
                refine e_iast (pc' := 219) dX11_findHands_218 rfl h_106 (by decide) (by omega) (by omega) ?_
                refine e_iinc (pc' := 222) (L' := [some (rv 88), some (iv g), some (iv w), some (iv (ρ.1 6 (g * 3 + w))), some (iv x), some (iv y), some (iv (z + 1)), some (iv ((((ρ.1 6 (g * 3 + w)) - x) - y) - z)), some (iv (hmS x y z)), some (iv (wvP ρ g w x y z))]) dX11_findHands_219 rfl rfl (by decide) rfl ?_
                refine e_goto (pc' := 71) dX11_findHands_222 (by decide) ?_
                have hm : ∀ j, ((upI τ2 106 (hmS x y z) (τ.1 106 (hmS x y z)))).1 106 j = if j = hmS x y z then max (τ.1 106 j) (wvP ρ g w x y z) else τ.1 106 j := by
                  intro j
                  by_cases hj : j = hmS x y z
                  · rw [if_pos hj, hj]
                    refine (if_pos ⟨rfl, rfl⟩ : ((upI τ2 106 (hmS x y z) (τ.1 106 (hmS x y z)))).1 106 (hmS x y z) = (τ.1 106 (hmS x y z))).trans ?_
                    omega
                  · rw [if_neg hj]
                    exact (if_neg (fun q => hj q.2) : ((upI τ2 106 (hmS x y z) (τ.1 106 (hmS x y z)))).1 106 j = τ2.1 106 j).trans (congrFun hb2 j)
                refine ih (z + 1) (upI τ2 106 (hmS x y z) (τ.1 106 (hmS x y z))) _ _ _ (by omega) (by omega) (by omega) ⟨?_, ?_, ?_, ?_⟩ (hI.step hm ⟨hvr.1, by omega⟩ ⟨by omega, by omega, by omega, by omega, by omega, by omega⟩ (fun a b c q => by unfold DnS at *; omega))
                · exact fr_I ((fr_I (fr_I (fr_I (fr_I hS.1 (by decide)) (by decide)) (by decide)) (by decide)).tr (hE2.mono (by decide))) (by decide)
                · exact ⟨hK2.1.trans hS.2.1.1, hK2.2.1.trans hS.2.1.2.1, hK2.2.2.trans hS.2.1.2.2⟩
                · exact RtI.fr (σ := τ2) hR2 rfl
                · intro i p q
                  have e100 : ((upI τ2 106 (hmS x y z) (τ.1 106 (hmS x y z)))).1 100 = ((upI (upI (upI (upI τ 100 0 ((((ρ.1 6 (g * 3 + w)) - x) - y) - z)) 100 1 x) 100 2 y) 100 3 z)).1 100 := (hE2 100 (by decide)).1
                  rw [e100]
                  exact hptr i p q
              · refine e_iload (pc' := 208) dX11_findHands_206 rfl rfl ?_
                refine e_goto (pc' := 218) dX11_findHands_208 (by decide) ?_
                refine e_iast (pc' := 219) dX11_findHands_218 rfl h_106 (by decide) (by omega) (by omega) ?_
                refine e_iinc (pc' := 222) (L' := [some (rv 88), some (iv g), some (iv w), some (iv (ρ.1 6 (g * 3 + w))), some (iv x), some (iv y), some (iv (z + 1)), some (iv ((((ρ.1 6 (g * 3 + w)) - x) - y) - z)), some (iv (hmS x y z)), some (iv (wvP ρ g w x y z))]) dX11_findHands_219 rfl rfl (by decide) rfl ?_
                refine e_goto (pc' := 71) dX11_findHands_222 (by decide) ?_
                have hm : ∀ j, ((upI τ2 106 (hmS x y z) (wvP ρ g w x y z))).1 106 j = if j = hmS x y z then max (τ.1 106 j) (wvP ρ g w x y z) else τ.1 106 j := by
                  intro j
                  by_cases hj : j = hmS x y z
                  · rw [if_pos hj, hj]
                    refine (if_pos ⟨rfl, rfl⟩ : ((upI τ2 106 (hmS x y z) (wvP ρ g w x y z))).1 106 (hmS x y z) = (wvP ρ g w x y z)).trans ?_
                    omega
                  · rw [if_neg hj]
                    exact (if_neg (fun q => hj q.2) : ((upI τ2 106 (hmS x y z) (wvP ρ g w x y z))).1 106 j = τ2.1 106 j).trans (congrFun hb2 j)
                refine ih (z + 1) (upI τ2 106 (hmS x y z) (wvP ρ g w x y z)) _ _ _ (by omega) (by omega) (by omega) ⟨?_, ?_, ?_, ?_⟩ (hI.step hm ⟨hvr.1, by omega⟩ ⟨by omega, by omega, by omega, by omega, by omega, by omega⟩ (fun a b c q => by unfold DnS at *; omega))
                · exact fr_I ((fr_I (fr_I (fr_I (fr_I hS.1 (by decide)) (by decide)) (by decide)) (by decide)).tr (hE2.mono (by decide))) (by decide)
                · exact ⟨hK2.1.trans hS.2.1.1, hK2.2.1.trans hS.2.1.2.1, hK2.2.2.trans hS.2.1.2.2⟩
                · exact RtI.fr (σ := τ2) hR2 rfl
                · intro i p q
                  have e100 : ((upI τ2 106 (hmS x y z) (wvP ρ g w x y z))).1 100 = ((upI (upI (upI (upI τ 100 0 ((((ρ.1 6 (g * 3 + w)) - x) - y) - z)) 100 1 x) 100 2 y) 100 3 z)).1 100 := (hE2 100 (by decide)).1
                  rw [e100]
                  exact hptr i p q
          · refine e_iconst (pc' := 159) dX11_findHands_158 rfl ?_
            refine e_goto (pc' := 163) dX11_findHands_159 (by decide) ?_
            refine e_iadd (pc' := 164) dX11_findHands_163 rfl ?_
            refine e_iload (pc' := 166) dX11_findHands_164 rfl rfl ?_
            refine e_ifI (pc' := 169) (t := 173) dX11_findHands_166 (by decide) rfl ⟨by omega, by omega⟩ (fun (c12_6 : (z : Int) ≤ 0) => ?_) (fun (c12_6 : ¬ ((z : Int) ≤ 0)) => ?_)
            · refine e_iconst (pc' := 174) dX11_findHands_173 rfl ?_
              refine e_iadd (pc' := 175) dX11_findHands_174 rfl ?_
              have hhe : (((1 + 0) + 1) + 0) = hmS x y z := by unfold hmS hnS; (repeat' split) <;> omega
              rw [hhe]
              have hmr := hmS_rg x y z
              refine e_istore (pc' := 177) (L' := [some (rv 88), some (iv g), some (iv w), some (iv (ρ.1 6 (g * 3 + w))), some (iv x), some (iv y), some (iv z), some (iv ((((ρ.1 6 (g * 3 + w)) - x) - y) - z)), some (iv (hmS x y z)), x9]) dX11_findHands_175 rfl (by decide) rfl ?_
              have hptr : ∀ i, 0 ≤ i → i < 4 → 0 ≤ ((upI (upI (upI (upI τ 100 0 ((((ρ.1 6 (g * 3 + w)) - x) - y) - z)) 100 1 x) 100 2 y) 100 3 z)).1 100 i ∧ ((upI (upI (upI (upI τ 100 0 ((((ρ.1 6 (g * 3 + w)) - x) - y) - z)) 100 1 x) 100 2 y) 100 3 z)).1 100 i ≤ 12 := by
                intro i p q
                rcases (show i = 0 ∨ i = 1 ∨ i = 2 ∨ i = 3 by omega) with rfl | rfl | rfl | rfl
                · show 0 ≤ (ρ.1 6 (g * 3 + w)) - x - y - z ∧ (ρ.1 6 (g * 3 + w)) - x - y - z ≤ 12; omega
                · show 0 ≤ x ∧ x ≤ 12; omega
                · show 0 ≤ y ∧ y ≤ 12; omega
                · show 0 ≤ z ∧ z ≤ 12; omega
              refine e_aload_n (pc' := 178) dX11_findHands_177 rfl rfl ?_
              refine e_cv0v (pc' := 181) dX11_findHands_178 rfl k_11_211 h_88 rfl (Nat.le_of_ble_eq_true rfl) rfl rfl ⟨rfl, rfl⟩ ⟨Nat.zero_le _, Nat.zero_le _⟩ (s_m_addUp (σ := (upI (upI (upI (upI τ 100 0 ((((ρ.1 6 (g * 3 + w)) - x) - y) - z)) 100 1 x) 100 2 y) 100 3 z)) ρ 1 ho (by rw [show ((upI (upI (upI (upI τ 100 0 ((((ρ.1 6 (g * 3 + w)) - x) - y) - z)) 100 1 x) 100 2 y) 100 3 z)).1 89 = σ.1 89 from (hS.1 89 (by decide)).1]; exact h.2.2.1) 0 g w (Or.inr ⟨rfl, by rw [show ((upI (upI (upI (upI τ 100 0 ((((ρ.1 6 (g * 3 + w)) - x) - y) - z)) 100 1 x) 100 2 y) 100 3 z)).1 89 = σ.1 89 from (hS.1 89 (by decide)).1]; exact hR⟩) hS.2.1.1 hS.2.1.2.1 hS.2.1.2.2 ⟨by omega, by omega⟩ ⟨by omega, by omega⟩ hptr (by rw [show ((upI (upI (upI (upI τ 100 0 ((((ρ.1 6 (g * 3 + w)) - x) - y) - z)) 100 1 x) 100 2 y) 100 3 z)).1 89 = σ.1 89 from (hS.1 89 (by decide)).1]; exact h.2.2.2.2.2.1) (RtI.fr (σ := τ) hS.2.2.1 rfl)) ?_
              rintro τ2 ⟨hA2, hR2, hE2, hK2⟩
              have hU : ∀ v, uaS ρ 1 g w (((upI (upI (upI (upI τ 100 0 ((((ρ.1 6 (g * 3 + w)) - x) - y) - z)) 100 1 x) 100 2 y) 100 3 z)).1 100) v = wpS ρ g w x y z v := ua_wp hg hw.2 rfl rfl rfl rfl
              have hL2 : LgM τ2 ρ 1 (wpS ρ g w x y z) := by
                intro v a c
                have q := hA2 v a c
                rw [show uaS ρ 1 g w (((upI (upI (upI (upI τ 100 0 ((((ρ.1 6 (g * 3 + w)) - x) - y) - z)) 100 1 x) 100 2 y) 100 3 z)).1 100) = wpS ρ g w x y z from funext hU] at q
                exact q
              have hP2 : MrP (τ2.1 89) ρ 1 := by rw [(hE2 89 (by decide)).1, show ((upI (upI (upI (upI τ 100 0 ((((ρ.1 6 (g * 3 + w)) - x) - y) - z)) 100 1 x) 100 2 y) 100 3 z)).1 89 = σ.1 89 from (hS.1 89 (by decide)).1]; exact h.2.2.1
              have hvr := wvP_rg ho hX (g := g) (w := w) (x := x) (y := y) (z := z) hg
              have hb2 : τ2.1 106 = τ.1 106 := (hE2 106 (by decide)).1
              have hbr := (hI (hmS x y z) hmr.1 hmr.2).1
              refine e_aload_n (pc' := 182) dX11_findHands_181 rfl rfl ?_
              refine e_iload_n (pc' := 183) dX11_findHands_182 rfl rfl ?_
              refine e_cv1i (pc' := 186) dX11_findHands_183 rfl k_11_214 h_88 rfl (Nat.le_of_ble_eq_true rfl) rfl rfl ⟨rfl, rfl⟩ ⟨Nat.zero_le _, Nat.zero_le _⟩ (s_m_hasNow2 ρ 1 ho hX hP2 (wpS ρ g w x y z) (fun v _ _ => wpS_rg _ _ _ _ _ _ _) hL2 g ⟨hg.1, by omega⟩) ?_
              intro r σ' hr; rw [hr.1, hr.2]; clear hr
              refine e_istore (pc' := 188) (L' := [some (rv 88), some (iv g), some (iv w), some (iv (ρ.1 6 (g * 3 + w))), some (iv x), some (iv y), some (iv z), some (iv ((((ρ.1 6 (g * 3 + w)) - x) - y) - z)), some (iv (hmS x y z)), some (iv (wvP ρ g w x y z))]) dX11_findHands_186 rfl (by decide) rfl ?_
              refine e_aload_n (pc' := 189) dX11_findHands_188 rfl rfl ?_
              refine e_getR (pc' := 192) dX11_findHands_189 rfl f_11_70 h_88 rfl ?_
              refine e_iload (pc' := 194) dX11_findHands_192 rfl rfl ?_
              refine e_iload (pc' := 196) dX11_findHands_194 rfl rfl ?_
              refine e_aload_n (pc' := 197) dX11_findHands_196 rfl rfl ?_
              refine e_getR (pc' := 200) dX11_findHands_197 rfl f_11_70 h_88 rfl ?_
              refine e_iload (pc' := 202) dX11_findHands_200 rfl rfl ?_
              refine e_iald (pc' := 203) (v := (τ.1 106 (hmS x y z))) dX11_findHands_202 rfl h_106 (by decide) (by omega) (by omega) (congrFun hb2 _) ?_
              refine e_icmpI (pc' := 206) (t := 211) dX11_findHands_203 (by decide) rfl ⟨by omega, by omega⟩ ⟨by omega, by omega⟩ (fun (c14_7 : ((wvP ρ g w x y z) : Int) ≤ (τ.1 106 (hmS x y z))) => ?_) (fun (c14_7 : ¬ (((wvP ρ g w x y z) : Int) ≤ (τ.1 106 (hmS x y z)))) => ?_)
              · refine e_aload_n (pc' := 212) dX11_findHands_211 rfl rfl ?_
                refine e_getR (pc' := 215) dX11_findHands_212 rfl f_11_70 h_88 rfl ?_
                refine e_iload (pc' := 217) dX11_findHands_215 rfl rfl ?_
                refine e_iald (pc' := 218) (v := (τ.1 106 (hmS x y z))) dX11_findHands_217 rfl h_106 (by decide) (by omega) (by omega) (congrFun hb2 _) ?_
                refine e_iast (pc' := 219) dX11_findHands_218 rfl h_106 (by decide) (by omega) (by omega) ?_
                refine e_iinc (pc' := 222) (L' := [some (rv 88), some (iv g), some (iv w), some (iv (ρ.1 6 (g * 3 + w))), some (iv x), some (iv y), some (iv (z + 1)), some (iv ((((ρ.1 6 (g * 3 + w)) - x) - y) - z)), some (iv (hmS x y z)), some (iv (wvP ρ g w x y z))]) dX11_findHands_219 rfl rfl (by decide) rfl ?_
                refine e_goto (pc' := 71) dX11_findHands_222 (by decide) ?_
                have hm : ∀ j, ((upI τ2 106 (hmS x y z) (τ.1 106 (hmS x y z)))).1 106 j = if j = hmS x y z then max (τ.1 106 j) (wvP ρ g w x y z) else τ.1 106 j := by
                  intro j
                  by_cases hj : j = hmS x y z
                  · rw [if_pos hj, hj]
                    refine (if_pos ⟨rfl, rfl⟩ : ((upI τ2 106 (hmS x y z) (τ.1 106 (hmS x y z)))).1 106 (hmS x y z) = (τ.1 106 (hmS x y z))).trans ?_
                    omega
                  · rw [if_neg hj]
                    exact (if_neg (fun q => hj q.2) : ((upI τ2 106 (hmS x y z) (τ.1 106 (hmS x y z)))).1 106 j = τ2.1 106 j).trans (congrFun hb2 j)
                refine ih (z + 1) (upI τ2 106 (hmS x y z) (τ.1 106 (hmS x y z))) _ _ _ (by omega) (by omega) (by omega) ⟨?_, ?_, ?_, ?_⟩ (hI.step hm ⟨hvr.1, by omega⟩ ⟨by omega, by omega, by omega, by omega, by omega, by omega⟩ (fun a b c q => by unfold DnS at *; omega))
                · exact fr_I ((fr_I (fr_I (fr_I (fr_I hS.1 (by decide)) (by decide)) (by decide)) (by decide)).tr (hE2.mono (by decide))) (by decide)
                · exact ⟨hK2.1.trans hS.2.1.1, hK2.2.1.trans hS.2.1.2.1, hK2.2.2.trans hS.2.1.2.2⟩
                · exact RtI.fr (σ := τ2) hR2 rfl
                · intro i p q
                  have e100 : ((upI τ2 106 (hmS x y z) (τ.1 106 (hmS x y z)))).1 100 = ((upI (upI (upI (upI τ 100 0 ((((ρ.1 6 (g * 3 + w)) - x) - y) - z)) 100 1 x) 100 2 y) 100 3 z)).1 100 := (hE2 100 (by decide)).1
                  rw [e100]
                  exact hptr i p q
              · refine e_iload (pc' := 208) dX11_findHands_206 rfl rfl ?_
                refine e_goto (pc' := 218) dX11_findHands_208 (by decide) ?_
                refine e_iast (pc' := 219) dX11_findHands_218 rfl h_106 (by decide) (by omega) (by omega) ?_
                refine e_iinc (pc' := 222) (L' := [some (rv 88), some (iv g), some (iv w), some (iv (ρ.1 6 (g * 3 + w))), some (iv x), some (iv y), some (iv (z + 1)), some (iv ((((ρ.1 6 (g * 3 + w)) - x) - y) - z)), some (iv (hmS x y z)), some (iv (wvP ρ g w x y z))]) dX11_findHands_219 rfl rfl (by decide) rfl ?_
                refine e_goto (pc' := 71) dX11_findHands_222 (by decide) ?_
                have hm : ∀ j, ((upI τ2 106 (hmS x y z) (wvP ρ g w x y z))).1 106 j = if j = hmS x y z then max (τ.1 106 j) (wvP ρ g w x y z) else τ.1 106 j := by
                  intro j
                  by_cases hj : j = hmS x y z
                  · rw [if_pos hj, hj]
                    refine (if_pos ⟨rfl, rfl⟩ : ((upI τ2 106 (hmS x y z) (wvP ρ g w x y z))).1 106 (hmS x y z) = (wvP ρ g w x y z)).trans ?_
                    omega
                  · rw [if_neg hj]
                    exact (if_neg (fun q => hj q.2) : ((upI τ2 106 (hmS x y z) (wvP ρ g w x y z))).1 106 j = τ2.1 106 j).trans (congrFun hb2 j)
                refine ih (z + 1) (upI τ2 106 (hmS x y z) (wvP ρ g w x y z)) _ _ _ (by omega) (by omega) (by omega) ⟨?_, ?_, ?_, ?_⟩ (hI.step hm ⟨hvr.1, by omega⟩ ⟨by omega, by omega, by omega, by omega, by omega, by omega⟩ (fun a b c q => by unfold DnS at *; omega))
                · exact fr_I ((fr_I (fr_I (fr_I (fr_I hS.1 (by decide)) (by decide)) (by decide)) (by decide)).tr (hE2.mono (by decide))) (by decide)
                · exact ⟨hK2.1.trans hS.2.1.1, hK2.2.1.trans hS.2.1.2.1, hK2.2.2.trans hS.2.1.2.2⟩
                · exact RtI.fr (σ := τ2) hR2 rfl
                · intro i p q
                  have e100 : ((upI τ2 106 (hmS x y z) (wvP ρ g w x y z))).1 100 = ((upI (upI (upI (upI τ 100 0 ((((ρ.1 6 (g * 3 + w)) - x) - y) - z)) 100 1 x) 100 2 y) 100 3 z)).1 100 := (hE2 100 (by decide)).1
                  rw [e100]
                  exact hptr i p q
            · refine e_iconst (pc' := 170) dX11_findHands_169 rfl ?_
              refine e_goto (pc' := 174) dX11_findHands_170 (by decide) ?_
              refine e_iadd (pc' := 175) dX11_findHands_174 rfl ?_
              have hhe : (((1 + 0) + 1) + 1) = hmS x y z := by unfold hmS hnS; (repeat' split) <;> omega
              rw [hhe]
              have hmr := hmS_rg x y z
              refine e_istore (pc' := 177) (L' := [some (rv 88), some (iv g), some (iv w), some (iv (ρ.1 6 (g * 3 + w))), some (iv x), some (iv y), some (iv z), some (iv ((((ρ.1 6 (g * 3 + w)) - x) - y) - z)), some (iv (hmS x y z)), x9]) dX11_findHands_175 rfl (by decide) rfl ?_
              have hptr : ∀ i, 0 ≤ i → i < 4 → 0 ≤ ((upI (upI (upI (upI τ 100 0 ((((ρ.1 6 (g * 3 + w)) - x) - y) - z)) 100 1 x) 100 2 y) 100 3 z)).1 100 i ∧ ((upI (upI (upI (upI τ 100 0 ((((ρ.1 6 (g * 3 + w)) - x) - y) - z)) 100 1 x) 100 2 y) 100 3 z)).1 100 i ≤ 12 := by
                intro i p q
                rcases (show i = 0 ∨ i = 1 ∨ i = 2 ∨ i = 3 by omega) with rfl | rfl | rfl | rfl
                · show 0 ≤ (ρ.1 6 (g * 3 + w)) - x - y - z ∧ (ρ.1 6 (g * 3 + w)) - x - y - z ≤ 12; omega
                · show 0 ≤ x ∧ x ≤ 12; omega
                · show 0 ≤ y ∧ y ≤ 12; omega
                · show 0 ≤ z ∧ z ≤ 12; omega
              refine e_aload_n (pc' := 178) dX11_findHands_177 rfl rfl ?_
              refine e_cv0v (pc' := 181) dX11_findHands_178 rfl k_11_211 h_88 rfl (Nat.le_of_ble_eq_true rfl) rfl rfl ⟨rfl, rfl⟩ ⟨Nat.zero_le _, Nat.zero_le _⟩ (s_m_addUp (σ := (upI (upI (upI (upI τ 100 0 ((((ρ.1 6 (g * 3 + w)) - x) - y) - z)) 100 1 x) 100 2 y) 100 3 z)) ρ 1 ho (by rw [show ((upI (upI (upI (upI τ 100 0 ((((ρ.1 6 (g * 3 + w)) - x) - y) - z)) 100 1 x) 100 2 y) 100 3 z)).1 89 = σ.1 89 from (hS.1 89 (by decide)).1]; exact h.2.2.1) 0 g w (Or.inr ⟨rfl, by rw [show ((upI (upI (upI (upI τ 100 0 ((((ρ.1 6 (g * 3 + w)) - x) - y) - z)) 100 1 x) 100 2 y) 100 3 z)).1 89 = σ.1 89 from (hS.1 89 (by decide)).1]; exact hR⟩) hS.2.1.1 hS.2.1.2.1 hS.2.1.2.2 ⟨by omega, by omega⟩ ⟨by omega, by omega⟩ hptr (by rw [show ((upI (upI (upI (upI τ 100 0 ((((ρ.1 6 (g * 3 + w)) - x) - y) - z)) 100 1 x) 100 2 y) 100 3 z)).1 89 = σ.1 89 from (hS.1 89 (by decide)).1]; exact h.2.2.2.2.2.1) (RtI.fr (σ := τ) hS.2.2.1 rfl)) ?_
              rintro τ2 ⟨hA2, hR2, hE2, hK2⟩
              have hU : ∀ v, uaS ρ 1 g w (((upI (upI (upI (upI τ 100 0 ((((ρ.1 6 (g * 3 + w)) - x) - y) - z)) 100 1 x) 100 2 y) 100 3 z)).1 100) v = wpS ρ g w x y z v := ua_wp hg hw.2 rfl rfl rfl rfl
              have hL2 : LgM τ2 ρ 1 (wpS ρ g w x y z) := by
                intro v a c
                have q := hA2 v a c
                rw [show uaS ρ 1 g w (((upI (upI (upI (upI τ 100 0 ((((ρ.1 6 (g * 3 + w)) - x) - y) - z)) 100 1 x) 100 2 y) 100 3 z)).1 100) = wpS ρ g w x y z from funext hU] at q
                exact q
              have hP2 : MrP (τ2.1 89) ρ 1 := by rw [(hE2 89 (by decide)).1, show ((upI (upI (upI (upI τ 100 0 ((((ρ.1 6 (g * 3 + w)) - x) - y) - z)) 100 1 x) 100 2 y) 100 3 z)).1 89 = σ.1 89 from (hS.1 89 (by decide)).1]; exact h.2.2.1
              have hvr := wvP_rg ho hX (g := g) (w := w) (x := x) (y := y) (z := z) hg
              have hb2 : τ2.1 106 = τ.1 106 := (hE2 106 (by decide)).1
              have hbr := (hI (hmS x y z) hmr.1 hmr.2).1
              refine e_aload_n (pc' := 182) dX11_findHands_181 rfl rfl ?_
              refine e_iload_n (pc' := 183) dX11_findHands_182 rfl rfl ?_
              refine e_cv1i (pc' := 186) dX11_findHands_183 rfl k_11_214 h_88 rfl (Nat.le_of_ble_eq_true rfl) rfl rfl ⟨rfl, rfl⟩ ⟨Nat.zero_le _, Nat.zero_le _⟩ (s_m_hasNow2 ρ 1 ho hX hP2 (wpS ρ g w x y z) (fun v _ _ => wpS_rg _ _ _ _ _ _ _) hL2 g ⟨hg.1, by omega⟩) ?_
              intro r σ' hr; rw [hr.1, hr.2]; clear hr
              refine e_istore (pc' := 188) (L' := [some (rv 88), some (iv g), some (iv w), some (iv (ρ.1 6 (g * 3 + w))), some (iv x), some (iv y), some (iv z), some (iv ((((ρ.1 6 (g * 3 + w)) - x) - y) - z)), some (iv (hmS x y z)), some (iv (wvP ρ g w x y z))]) dX11_findHands_186 rfl (by decide) rfl ?_
              refine e_aload_n (pc' := 189) dX11_findHands_188 rfl rfl ?_
              refine e_getR (pc' := 192) dX11_findHands_189 rfl f_11_70 h_88 rfl ?_
              refine e_iload (pc' := 194) dX11_findHands_192 rfl rfl ?_
              refine e_iload (pc' := 196) dX11_findHands_194 rfl rfl ?_
              refine e_aload_n (pc' := 197) dX11_findHands_196 rfl rfl ?_
              refine e_getR (pc' := 200) dX11_findHands_197 rfl f_11_70 h_88 rfl ?_
              refine e_iload (pc' := 202) dX11_findHands_200 rfl rfl ?_
              refine e_iald (pc' := 203) (v := (τ.1 106 (hmS x y z))) dX11_findHands_202 rfl h_106 (by decide) (by omega) (by omega) (congrFun hb2 _) ?_
              refine e_icmpI (pc' := 206) (t := 211) dX11_findHands_203 (by decide) rfl ⟨by omega, by omega⟩ ⟨by omega, by omega⟩ (fun (c14_7 : ((wvP ρ g w x y z) : Int) ≤ (τ.1 106 (hmS x y z))) => ?_) (fun (c14_7 : ¬ (((wvP ρ g w x y z) : Int) ≤ (τ.1 106 (hmS x y z)))) => ?_)
              · refine e_aload_n (pc' := 212) dX11_findHands_211 rfl rfl ?_
                refine e_getR (pc' := 215) dX11_findHands_212 rfl f_11_70 h_88 rfl ?_
                refine e_iload (pc' := 217) dX11_findHands_215 rfl rfl ?_
                refine e_iald (pc' := 218) (v := (τ.1 106 (hmS x y z))) dX11_findHands_217 rfl h_106 (by decide) (by omega) (by omega) (congrFun hb2 _) ?_
                refine e_iast (pc' := 219) dX11_findHands_218 rfl h_106 (by decide) (by omega) (by omega) ?_
                refine e_iinc (pc' := 222) (L' := [some (rv 88), some (iv g), some (iv w), some (iv (ρ.1 6 (g * 3 + w))), some (iv x), some (iv y), some (iv (z + 1)), some (iv ((((ρ.1 6 (g * 3 + w)) - x) - y) - z)), some (iv (hmS x y z)), some (iv (wvP ρ g w x y z))]) dX11_findHands_219 rfl rfl (by decide) rfl ?_
                refine e_goto (pc' := 71) dX11_findHands_222 (by decide) ?_
                have hm : ∀ j, ((upI τ2 106 (hmS x y z) (τ.1 106 (hmS x y z)))).1 106 j = if j = hmS x y z then max (τ.1 106 j) (wvP ρ g w x y z) else τ.1 106 j := by
                  intro j
                  by_cases hj : j = hmS x y z
                  · rw [if_pos hj, hj]
                    refine (if_pos ⟨rfl, rfl⟩ : ((upI τ2 106 (hmS x y z) (τ.1 106 (hmS x y z)))).1 106 (hmS x y z) = (τ.1 106 (hmS x y z))).trans ?_
                    omega
                  · rw [if_neg hj]
                    exact (if_neg (fun q => hj q.2) : ((upI τ2 106 (hmS x y z) (τ.1 106 (hmS x y z)))).1 106 j = τ2.1 106 j).trans (congrFun hb2 j)
                refine ih (z + 1) (upI τ2 106 (hmS x y z) (τ.1 106 (hmS x y z))) _ _ _ (by omega) (by omega) (by omega) ⟨?_, ?_, ?_, ?_⟩ (hI.step hm ⟨hvr.1, by omega⟩ ⟨by omega, by omega, by omega, by omega, by omega, by omega⟩ (fun a b c q => by unfold DnS at *; omega))
                · exact fr_I ((fr_I (fr_I (fr_I (fr_I hS.1 (by decide)) (by decide)) (by decide)) (by decide)).tr (hE2.mono (by decide))) (by decide)
                · exact ⟨hK2.1.trans hS.2.1.1, hK2.2.1.trans hS.2.1.2.1, hK2.2.2.trans hS.2.1.2.2⟩
                · exact RtI.fr (σ := τ2) hR2 rfl
                · intro i p q
                  have e100 : ((upI τ2 106 (hmS x y z) (τ.1 106 (hmS x y z)))).1 100 = ((upI (upI (upI (upI τ 100 0 ((((ρ.1 6 (g * 3 + w)) - x) - y) - z)) 100 1 x) 100 2 y) 100 3 z)).1 100 := (hE2 100 (by decide)).1
                  rw [e100]
                  exact hptr i p q
              · refine e_iload (pc' := 208) dX11_findHands_206 rfl rfl ?_
                refine e_goto (pc' := 218) dX11_findHands_208 (by decide) ?_
                refine e_iast (pc' := 219) dX11_findHands_218 rfl h_106 (by decide) (by omega) (by omega) ?_
                refine e_iinc (pc' := 222) (L' := [some (rv 88), some (iv g), some (iv w), some (iv (ρ.1 6 (g * 3 + w))), some (iv x), some (iv y), some (iv (z + 1)), some (iv ((((ρ.1 6 (g * 3 + w)) - x) - y) - z)), some (iv (hmS x y z)), some (iv (wvP ρ g w x y z))]) dX11_findHands_219 rfl rfl (by decide) rfl ?_
                refine e_goto (pc' := 71) dX11_findHands_222 (by decide) ?_
                have hm : ∀ j, ((upI τ2 106 (hmS x y z) (wvP ρ g w x y z))).1 106 j = if j = hmS x y z then max (τ.1 106 j) (wvP ρ g w x y z) else τ.1 106 j := by
                  intro j
                  by_cases hj : j = hmS x y z
                  · rw [if_pos hj, hj]
                    refine (if_pos ⟨rfl, rfl⟩ : ((upI τ2 106 (hmS x y z) (wvP ρ g w x y z))).1 106 (hmS x y z) = (wvP ρ g w x y z)).trans ?_
                    omega
                  · rw [if_neg hj]
                    exact (if_neg (fun q => hj q.2) : ((upI τ2 106 (hmS x y z) (wvP ρ g w x y z))).1 106 j = τ2.1 106 j).trans (congrFun hb2 j)
                refine ih (z + 1) (upI τ2 106 (hmS x y z) (wvP ρ g w x y z)) _ _ _ (by omega) (by omega) (by omega) ⟨?_, ?_, ?_, ?_⟩ (hI.step hm ⟨hvr.1, by omega⟩ ⟨by omega, by omega, by omega, by omega, by omega, by omega⟩ (fun a b c q => by unfold DnS at *; omega))
                · exact fr_I ((fr_I (fr_I (fr_I (fr_I hS.1 (by decide)) (by decide)) (by decide)) (by decide)).tr (hE2.mono (by decide))) (by decide)
                · exact ⟨hK2.1.trans hS.2.1.1, hK2.2.1.trans hS.2.1.2.1, hK2.2.2.trans hS.2.1.2.2⟩
                · exact RtI.fr (σ := τ2) hR2 rfl
                · intro i p q
                  have e100 : ((upI τ2 106 (hmS x y z) (wvP ρ g w x y z))).1 100 = ((upI (upI (upI (upI τ 100 0 ((((ρ.1 6 (g * 3 + w)) - x) - y) - z)) 100 1 x) 100 2 y) 100 3 z)).1 100 := (hE2 100 (by decide)).1
                  rw [e100]
                  exact hptr i p q
        · refine e_iconst (pc' := 148) dX11_findHands_147 rfl ?_
          refine e_goto (pc' := 152) dX11_findHands_148 (by decide) ?_
          refine e_iadd (pc' := 153) dX11_findHands_152 rfl ?_
          refine e_iload (pc' := 155) dX11_findHands_153 rfl rfl ?_
          refine e_ifI (pc' := 158) (t := 162) dX11_findHands_155 (by decide) rfl ⟨by omega, by omega⟩ (fun (c10_5 : (y : Int) ≤ 0) => ?_) (fun (c10_5 : ¬ ((y : Int) ≤ 0)) => ?_)
          · refine e_iconst (pc' := 163) dX11_findHands_162 rfl ?_
            refine e_iadd (pc' := 164) dX11_findHands_163 rfl ?_
            refine e_iload (pc' := 166) dX11_findHands_164 rfl rfl ?_
            refine e_ifI (pc' := 169) (t := 173) dX11_findHands_166 (by decide) rfl ⟨by omega, by omega⟩ (fun (c12_6 : (z : Int) ≤ 0) => ?_) (fun (c12_6 : ¬ ((z : Int) ≤ 0)) => ?_)
            · refine e_iconst (pc' := 174) dX11_findHands_173 rfl ?_
              refine e_iadd (pc' := 175) dX11_findHands_174 rfl ?_
              have hhe : (((1 + 1) + 0) + 0) = hmS x y z := by unfold hmS hnS; (repeat' split) <;> omega
              rw [hhe]
              have hmr := hmS_rg x y z
              refine e_istore (pc' := 177) (L' := [some (rv 88), some (iv g), some (iv w), some (iv (ρ.1 6 (g * 3 + w))), some (iv x), some (iv y), some (iv z), some (iv ((((ρ.1 6 (g * 3 + w)) - x) - y) - z)), some (iv (hmS x y z)), x9]) dX11_findHands_175 rfl (by decide) rfl ?_
              have hptr : ∀ i, 0 ≤ i → i < 4 → 0 ≤ ((upI (upI (upI (upI τ 100 0 ((((ρ.1 6 (g * 3 + w)) - x) - y) - z)) 100 1 x) 100 2 y) 100 3 z)).1 100 i ∧ ((upI (upI (upI (upI τ 100 0 ((((ρ.1 6 (g * 3 + w)) - x) - y) - z)) 100 1 x) 100 2 y) 100 3 z)).1 100 i ≤ 12 := by
                intro i p q
                rcases (show i = 0 ∨ i = 1 ∨ i = 2 ∨ i = 3 by omega) with rfl | rfl | rfl | rfl
                · show 0 ≤ (ρ.1 6 (g * 3 + w)) - x - y - z ∧ (ρ.1 6 (g * 3 + w)) - x - y - z ≤ 12; omega
                · show 0 ≤ x ∧ x ≤ 12; omega
                · show 0 ≤ y ∧ y ≤ 12; omega
                · show 0 ≤ z ∧ z ≤ 12; omega
              refine e_aload_n (pc' := 178) dX11_findHands_177 rfl rfl ?_
              refine e_cv0v (pc' := 181) dX11_findHands_178 rfl k_11_211 h_88 rfl (Nat.le_of_ble_eq_true rfl) rfl rfl ⟨rfl, rfl⟩ ⟨Nat.zero_le _, Nat.zero_le _⟩ (s_m_addUp (σ := (upI (upI (upI (upI τ 100 0 ((((ρ.1 6 (g * 3 + w)) - x) - y) - z)) 100 1 x) 100 2 y) 100 3 z)) ρ 1 ho (by rw [show ((upI (upI (upI (upI τ 100 0 ((((ρ.1 6 (g * 3 + w)) - x) - y) - z)) 100 1 x) 100 2 y) 100 3 z)).1 89 = σ.1 89 from (hS.1 89 (by decide)).1]; exact h.2.2.1) 0 g w (Or.inr ⟨rfl, by rw [show ((upI (upI (upI (upI τ 100 0 ((((ρ.1 6 (g * 3 + w)) - x) - y) - z)) 100 1 x) 100 2 y) 100 3 z)).1 89 = σ.1 89 from (hS.1 89 (by decide)).1]; exact hR⟩) hS.2.1.1 hS.2.1.2.1 hS.2.1.2.2 ⟨by omega, by omega⟩ ⟨by omega, by omega⟩ hptr (by rw [show ((upI (upI (upI (upI τ 100 0 ((((ρ.1 6 (g * 3 + w)) - x) - y) - z)) 100 1 x) 100 2 y) 100 3 z)).1 89 = σ.1 89 from (hS.1 89 (by decide)).1]; exact h.2.2.2.2.2.1) (RtI.fr (σ := τ) hS.2.2.1 rfl)) ?_
              rintro τ2 ⟨hA2, hR2, hE2, hK2⟩
              have hU : ∀ v, uaS ρ 1 g w (((upI (upI (upI (upI τ 100 0 ((((ρ.1 6 (g * 3 + w)) - x) - y) - z)) 100 1 x) 100 2 y) 100 3 z)).1 100) v = wpS ρ g w x y z v := ua_wp hg hw.2 rfl rfl rfl rfl
              have hL2 : LgM τ2 ρ 1 (wpS ρ g w x y z) := by
                intro v a c
                have q := hA2 v a c
                rw [show uaS ρ 1 g w (((upI (upI (upI (upI τ 100 0 ((((ρ.1 6 (g * 3 + w)) - x) - y) - z)) 100 1 x) 100 2 y) 100 3 z)).1 100) = wpS ρ g w x y z from funext hU] at q
                exact q
              have hP2 : MrP (τ2.1 89) ρ 1 := by rw [(hE2 89 (by decide)).1, show ((upI (upI (upI (upI τ 100 0 ((((ρ.1 6 (g * 3 + w)) - x) - y) - z)) 100 1 x) 100 2 y) 100 3 z)).1 89 = σ.1 89 from (hS.1 89 (by decide)).1]; exact h.2.2.1
              have hvr := wvP_rg ho hX (g := g) (w := w) (x := x) (y := y) (z := z) hg
              have hb2 : τ2.1 106 = τ.1 106 := (hE2 106 (by decide)).1
              have hbr := (hI (hmS x y z) hmr.1 hmr.2).1
              refine e_aload_n (pc' := 182) dX11_findHands_181 rfl rfl ?_
              refine e_iload_n (pc' := 183) dX11_findHands_182 rfl rfl ?_
              refine e_cv1i (pc' := 186) dX11_findHands_183 rfl k_11_214 h_88 rfl (Nat.le_of_ble_eq_true rfl) rfl rfl ⟨rfl, rfl⟩ ⟨Nat.zero_le _, Nat.zero_le _⟩ (s_m_hasNow2 ρ 1 ho hX hP2 (wpS ρ g w x y z) (fun v _ _ => wpS_rg _ _ _ _ _ _ _) hL2 g ⟨hg.1, by omega⟩) ?_
              intro r σ' hr; rw [hr.1, hr.2]; clear hr
              refine e_istore (pc' := 188) (L' := [some (rv 88), some (iv g), some (iv w), some (iv (ρ.1 6 (g * 3 + w))), some (iv x), some (iv y), some (iv z), some (iv ((((ρ.1 6 (g * 3 + w)) - x) - y) - z)), some (iv (hmS x y z)), some (iv (wvP ρ g w x y z))]) dX11_findHands_186 rfl (by decide) rfl ?_
              refine e_aload_n (pc' := 189) dX11_findHands_188 rfl rfl ?_
              refine e_getR (pc' := 192) dX11_findHands_189 rfl f_11_70 h_88 rfl ?_
              refine e_iload (pc' := 194) dX11_findHands_192 rfl rfl ?_
              refine e_iload (pc' := 196) dX11_findHands_194 rfl rfl ?_
              refine e_aload_n (pc' := 197) dX11_findHands_196 rfl rfl ?_
              refine e_getR (pc' := 200) dX11_findHands_197 rfl f_11_70 h_88 rfl ?_
              refine e_iload (pc' := 202) dX11_findHands_200 rfl rfl ?_
              refine e_iald (pc' := 203) (v := (τ.1 106 (hmS x y z))) dX11_findHands_202 rfl h_106 (by decide) (by omega) (by omega) (congrFun hb2 _) ?_
              refine e_icmpI (pc' := 206) (t := 211) dX11_findHands_203 (by decide) rfl ⟨by omega, by omega⟩ ⟨by omega, by omega⟩ (fun (c14_7 : ((wvP ρ g w x y z) : Int) ≤ (τ.1 106 (hmS x y z))) => ?_) (fun (c14_7 : ¬ (((wvP ρ g w x y z) : Int) ≤ (τ.1 106 (hmS x y z)))) => ?_)
              · refine e_aload_n (pc' := 212) dX11_findHands_211 rfl rfl ?_
                refine e_getR (pc' := 215) dX11_findHands_212 rfl f_11_70 h_88 rfl ?_
                refine e_iload (pc' := 217) dX11_findHands_215 rfl rfl ?_
                refine e_iald (pc' := 218) (v := (τ.1 106 (hmS x y z))) dX11_findHands_217 rfl h_106 (by decide) (by omega) (by omega) (congrFun hb2 _) ?_
                refine e_iast (pc' := 219) dX11_findHands_218 rfl h_106 (by decide) (by omega) (by omega) ?_
                refine e_iinc (pc' := 222) (L' := [some (rv 88), some (iv g), some (iv w), some (iv (ρ.1 6 (g * 3 + w))), some (iv x), some (iv y), some (iv (z + 1)), some (iv ((((ρ.1 6 (g * 3 + w)) - x) - y) - z)), some (iv (hmS x y z)), some (iv (wvP ρ g w x y z))]) dX11_findHands_219 rfl rfl (by decide) rfl ?_
                refine e_goto (pc' := 71) dX11_findHands_222 (by decide) ?_
                have hm : ∀ j, ((upI τ2 106 (hmS x y z) (τ.1 106 (hmS x y z)))).1 106 j = if j = hmS x y z then max (τ.1 106 j) (wvP ρ g w x y z) else τ.1 106 j := by
                  intro j
                  by_cases hj : j = hmS x y z
                  · rw [if_pos hj, hj]
                    refine (if_pos ⟨rfl, rfl⟩ : ((upI τ2 106 (hmS x y z) (τ.1 106 (hmS x y z)))).1 106 (hmS x y z) = (τ.1 106 (hmS x y z))).trans ?_
                    omega
                  · rw [if_neg hj]
                    exact (if_neg (fun q => hj q.2) : ((upI τ2 106 (hmS x y z) (τ.1 106 (hmS x y z)))).1 106 j = τ2.1 106 j).trans (congrFun hb2 j)
                refine ih (z + 1) (upI τ2 106 (hmS x y z) (τ.1 106 (hmS x y z))) _ _ _ (by omega) (by omega) (by omega) ⟨?_, ?_, ?_, ?_⟩ (hI.step hm ⟨hvr.1, by omega⟩ ⟨by omega, by omega, by omega, by omega, by omega, by omega⟩ (fun a b c q => by unfold DnS at *; omega))
                · exact fr_I ((fr_I (fr_I (fr_I (fr_I hS.1 (by decide)) (by decide)) (by decide)) (by decide)).tr (hE2.mono (by decide))) (by decide)
                · exact ⟨hK2.1.trans hS.2.1.1, hK2.2.1.trans hS.2.1.2.1, hK2.2.2.trans hS.2.1.2.2⟩
                · exact RtI.fr (σ := τ2) hR2 rfl
                · intro i p q
                  have e100 : ((upI τ2 106 (hmS x y z) (τ.1 106 (hmS x y z)))).1 100 = ((upI (upI (upI (upI τ 100 0 ((((ρ.1 6 (g * 3 + w)) - x) - y) - z)) 100 1 x) 100 2 y) 100 3 z)).1 100 := (hE2 100 (by decide)).1
                  rw [e100]
                  exact hptr i p q
              · refine e_iload (pc' := 208) dX11_findHands_206 rfl rfl ?_
                refine e_goto (pc' := 218) dX11_findHands_208 (by decide) ?_
                refine e_iast (pc' := 219) dX11_findHands_218 rfl h_106 (by decide) (by omega) (by omega) ?_
                refine e_iinc (pc' := 222) (L' := [some (rv 88), some (iv g), some (iv w), some (iv (ρ.1 6 (g * 3 + w))), some (iv x), some (iv y), some (iv (z + 1)), some (iv ((((ρ.1 6 (g * 3 + w)) - x) - y) - z)), some (iv (hmS x y z)), some (iv (wvP ρ g w x y z))]) dX11_findHands_219 rfl rfl (by decide) rfl ?_
                refine e_goto (pc' := 71) dX11_findHands_222 (by decide) ?_
                have hm : ∀ j, ((upI τ2 106 (hmS x y z) (wvP ρ g w x y z))).1 106 j = if j = hmS x y z then max (τ.1 106 j) (wvP ρ g w x y z) else τ.1 106 j := by
                  intro j
                  by_cases hj : j = hmS x y z
                  · rw [if_pos hj, hj]
                    refine (if_pos ⟨rfl, rfl⟩ : ((upI τ2 106 (hmS x y z) (wvP ρ g w x y z))).1 106 (hmS x y z) = (wvP ρ g w x y z)).trans ?_
                    omega
                  · rw [if_neg hj]
                    exact (if_neg (fun q => hj q.2) : ((upI τ2 106 (hmS x y z) (wvP ρ g w x y z))).1 106 j = τ2.1 106 j).trans (congrFun hb2 j)
                refine ih (z + 1) (upI τ2 106 (hmS x y z) (wvP ρ g w x y z)) _ _ _ (by omega) (by omega) (by omega) ⟨?_, ?_, ?_, ?_⟩ (hI.step hm ⟨hvr.1, by omega⟩ ⟨by omega, by omega, by omega, by omega, by omega, by omega⟩ (fun a b c q => by unfold DnS at *; omega))
                · exact fr_I ((fr_I (fr_I (fr_I (fr_I hS.1 (by decide)) (by decide)) (by decide)) (by decide)).tr (hE2.mono (by decide))) (by decide)
                · exact ⟨hK2.1.trans hS.2.1.1, hK2.2.1.trans hS.2.1.2.1, hK2.2.2.trans hS.2.1.2.2⟩
                · exact RtI.fr (σ := τ2) hR2 rfl
                · intro i p q
                  have e100 : ((upI τ2 106 (hmS x y z) (wvP ρ g w x y z))).1 100 = ((upI (upI (upI (upI τ 100 0 ((((ρ.1 6 (g * 3 + w)) - x) - y) - z)) 100 1 x) 100 2 y) 100 3 z)).1 100 := (hE2 100 (by decide)).1
                  rw [e100]
                  exact hptr i p q
            · refine e_iconst (pc' := 170) dX11_findHands_169 rfl ?_
              refine e_goto (pc' := 174) dX11_findHands_170 (by decide) ?_
              refine e_iadd (pc' := 175) dX11_findHands_174 rfl ?_
              have hhe : (((1 + 1) + 0) + 1) = hmS x y z := by unfold hmS hnS; (repeat' split) <;> omega
              rw [hhe]
              have hmr := hmS_rg x y z
              refine e_istore (pc' := 177) (L' := [some (rv 88), some (iv g), some (iv w), some (iv (ρ.1 6 (g * 3 + w))), some (iv x), some (iv y), some (iv z), some (iv ((((ρ.1 6 (g * 3 + w)) - x) - y) - z)), some (iv (hmS x y z)), x9]) dX11_findHands_175 rfl (by decide) rfl ?_
              have hptr : ∀ i, 0 ≤ i → i < 4 → 0 ≤ ((upI (upI (upI (upI τ 100 0 ((((ρ.1 6 (g * 3 + w)) - x) - y) - z)) 100 1 x) 100 2 y) 100 3 z)).1 100 i ∧ ((upI (upI (upI (upI τ 100 0 ((((ρ.1 6 (g * 3 + w)) - x) - y) - z)) 100 1 x) 100 2 y) 100 3 z)).1 100 i ≤ 12 := by
                intro i p q
                rcases (show i = 0 ∨ i = 1 ∨ i = 2 ∨ i = 3 by omega) with rfl | rfl | rfl | rfl
                · show 0 ≤ (ρ.1 6 (g * 3 + w)) - x - y - z ∧ (ρ.1 6 (g * 3 + w)) - x - y - z ≤ 12; omega
                · show 0 ≤ x ∧ x ≤ 12; omega
                · show 0 ≤ y ∧ y ≤ 12; omega
                · show 0 ≤ z ∧ z ≤ 12; omega
              refine e_aload_n (pc' := 178) dX11_findHands_177 rfl rfl ?_
              refine e_cv0v (pc' := 181) dX11_findHands_178 rfl k_11_211 h_88 rfl (Nat.le_of_ble_eq_true rfl) rfl rfl ⟨rfl, rfl⟩ ⟨Nat.zero_le _, Nat.zero_le _⟩ (s_m_addUp (σ := (upI (upI (upI (upI τ 100 0 ((((ρ.1 6 (g * 3 + w)) - x) - y) - z)) 100 1 x) 100 2 y) 100 3 z)) ρ 1 ho (by rw [show ((upI (upI (upI (upI τ 100 0 ((((ρ.1 6 (g * 3 + w)) - x) - y) - z)) 100 1 x) 100 2 y) 100 3 z)).1 89 = σ.1 89 from (hS.1 89 (by decide)).1]; exact h.2.2.1) 0 g w (Or.inr ⟨rfl, by rw [show ((upI (upI (upI (upI τ 100 0 ((((ρ.1 6 (g * 3 + w)) - x) - y) - z)) 100 1 x) 100 2 y) 100 3 z)).1 89 = σ.1 89 from (hS.1 89 (by decide)).1]; exact hR⟩) hS.2.1.1 hS.2.1.2.1 hS.2.1.2.2 ⟨by omega, by omega⟩ ⟨by omega, by omega⟩ hptr (by rw [show ((upI (upI (upI (upI τ 100 0 ((((ρ.1 6 (g * 3 + w)) - x) - y) - z)) 100 1 x) 100 2 y) 100 3 z)).1 89 = σ.1 89 from (hS.1 89 (by decide)).1]; exact h.2.2.2.2.2.1) (RtI.fr (σ := τ) hS.2.2.1 rfl)) ?_
              rintro τ2 ⟨hA2, hR2, hE2, hK2⟩
              have hU : ∀ v, uaS ρ 1 g w (((upI (upI (upI (upI τ 100 0 ((((ρ.1 6 (g * 3 + w)) - x) - y) - z)) 100 1 x) 100 2 y) 100 3 z)).1 100) v = wpS ρ g w x y z v := ua_wp hg hw.2 rfl rfl rfl rfl
              have hL2 : LgM τ2 ρ 1 (wpS ρ g w x y z) := by
                intro v a c
                have q := hA2 v a c
                rw [show uaS ρ 1 g w (((upI (upI (upI (upI τ 100 0 ((((ρ.1 6 (g * 3 + w)) - x) - y) - z)) 100 1 x) 100 2 y) 100 3 z)).1 100) = wpS ρ g w x y z from funext hU] at q
                exact q
              have hP2 : MrP (τ2.1 89) ρ 1 := by rw [(hE2 89 (by decide)).1, show ((upI (upI (upI (upI τ 100 0 ((((ρ.1 6 (g * 3 + w)) - x) - y) - z)) 100 1 x) 100 2 y) 100 3 z)).1 89 = σ.1 89 from (hS.1 89 (by decide)).1]; exact h.2.2.1
              have hvr := wvP_rg ho hX (g := g) (w := w) (x := x) (y := y) (z := z) hg
              have hb2 : τ2.1 106 = τ.1 106 := (hE2 106 (by decide)).1
              have hbr := (hI (hmS x y z) hmr.1 hmr.2).1
              refine e_aload_n (pc' := 182) dX11_findHands_181 rfl rfl ?_
              refine e_iload_n (pc' := 183) dX11_findHands_182 rfl rfl ?_
              refine e_cv1i (pc' := 186) dX11_findHands_183 rfl k_11_214 h_88 rfl (Nat.le_of_ble_eq_true rfl) rfl rfl ⟨rfl, rfl⟩ ⟨Nat.zero_le _, Nat.zero_le _⟩ (s_m_hasNow2 ρ 1 ho hX hP2 (wpS ρ g w x y z) (fun v _ _ => wpS_rg _ _ _ _ _ _ _) hL2 g ⟨hg.1, by omega⟩) ?_
              intro r σ' hr; rw [hr.1, hr.2]; clear hr
              refine e_istore (pc' := 188) (L' := [some (rv 88), some (iv g), some (iv w), some (iv (ρ.1 6 (g * 3 + w))), some (iv x), some (iv y), some (iv z), some (iv ((((ρ.1 6 (g * 3 + w)) - x) - y) - z)), some (iv (hmS x y z)), some (iv (wvP ρ g w x y z))]) dX11_findHands_186 rfl (by decide) rfl ?_
              refine e_aload_n (pc' := 189) dX11_findHands_188 rfl rfl ?_
              refine e_getR (pc' := 192) dX11_findHands_189 rfl f_11_70 h_88 rfl ?_
              refine e_iload (pc' := 194) dX11_findHands_192 rfl rfl ?_
              refine e_iload (pc' := 196) dX11_findHands_194 rfl rfl ?_
              refine e_aload_n (pc' := 197) dX11_findHands_196 rfl rfl ?_
              refine e_getR (pc' := 200) dX11_findHands_197 rfl f_11_70 h_88 rfl ?_
              refine e_iload (pc' := 202) dX11_findHands_200 rfl rfl ?_
              refine e_iald (pc' := 203) (v := (τ.1 106 (hmS x y z))) dX11_findHands_202 rfl h_106 (by decide) (by omega) (by omega) (congrFun hb2 _) ?_
              refine e_icmpI (pc' := 206) (t := 211) dX11_findHands_203 (by decide) rfl ⟨by omega, by omega⟩ ⟨by omega, by omega⟩ (fun (c14_7 : ((wvP ρ g w x y z) : Int) ≤ (τ.1 106 (hmS x y z))) => ?_) (fun (c14_7 : ¬ (((wvP ρ g w x y z) : Int) ≤ (τ.1 106 (hmS x y z)))) => ?_)
              · refine e_aload_n (pc' := 212) dX11_findHands_211 rfl rfl ?_
                refine e_getR (pc' := 215) dX11_findHands_212 rfl f_11_70 h_88 rfl ?_
                refine e_iload (pc' := 217) dX11_findHands_215 rfl rfl ?_
                refine e_iald (pc' := 218) (v := (τ.1 106 (hmS x y z))) dX11_findHands_217 rfl h_106 (by decide) (by omega) (by omega) (congrFun hb2 _) ?_
                refine e_iast (pc' := 219) dX11_findHands_218 rfl h_106 (by decide) (by omega) (by omega) ?_
                refine e_iinc (pc' := 222) (L' := [some (rv 88), some (iv g), some (iv w), some (iv (ρ.1 6 (g * 3 + w))), some (iv x), some (iv y), some (iv (z + 1)), some (iv ((((ρ.1 6 (g * 3 + w)) - x) - y) - z)), some (iv (hmS x y z)), some (iv (wvP ρ g w x y z))]) dX11_findHands_219 rfl rfl (by decide) rfl ?_
                refine e_goto (pc' := 71) dX11_findHands_222 (by decide) ?_
                have hm : ∀ j, ((upI τ2 106 (hmS x y z) (τ.1 106 (hmS x y z)))).1 106 j = if j = hmS x y z then max (τ.1 106 j) (wvP ρ g w x y z) else τ.1 106 j := by
                  intro j
                  by_cases hj : j = hmS x y z
                  · rw [if_pos hj, hj]
                    refine (if_pos ⟨rfl, rfl⟩ : ((upI τ2 106 (hmS x y z) (τ.1 106 (hmS x y z)))).1 106 (hmS x y z) = (τ.1 106 (hmS x y z))).trans ?_
                    omega
                  · rw [if_neg hj]
                    exact (if_neg (fun q => hj q.2) : ((upI τ2 106 (hmS x y z) (τ.1 106 (hmS x y z)))).1 106 j = τ2.1 106 j).trans (congrFun hb2 j)
                refine ih (z + 1) (upI τ2 106 (hmS x y z) (τ.1 106 (hmS x y z))) _ _ _ (by omega) (by omega) (by omega) ⟨?_, ?_, ?_, ?_⟩ (hI.step hm ⟨hvr.1, by omega⟩ ⟨by omega, by omega, by omega, by omega, by omega, by omega⟩ (fun a b c q => by unfold DnS at *; omega))
                · exact fr_I ((fr_I (fr_I (fr_I (fr_I hS.1 (by decide)) (by decide)) (by decide)) (by decide)).tr (hE2.mono (by decide))) (by decide)
                · exact ⟨hK2.1.trans hS.2.1.1, hK2.2.1.trans hS.2.1.2.1, hK2.2.2.trans hS.2.1.2.2⟩
                · exact RtI.fr (σ := τ2) hR2 rfl
                · intro i p q
                  have e100 : ((upI τ2 106 (hmS x y z) (τ.1 106 (hmS x y z)))).1 100 = ((upI (upI (upI (upI τ 100 0 ((((ρ.1 6 (g * 3 + w)) - x) - y) - z)) 100 1 x) 100 2 y) 100 3 z)).1 100 := (hE2 100 (by decide)).1
                  rw [e100]
                  exact hptr i p q
              · refine e_iload (pc' := 208) dX11_findHands_206 rfl rfl ?_
                refine e_goto (pc' := 218) dX11_findHands_208 (by decide) ?_
                refine e_iast (pc' := 219) dX11_findHands_218 rfl h_106 (by decide) (by omega) (by omega) ?_
                refine e_iinc (pc' := 222) (L' := [some (rv 88), some (iv g), some (iv w), some (iv (ρ.1 6 (g * 3 + w))), some (iv x), some (iv y), some (iv (z + 1)), some (iv ((((ρ.1 6 (g * 3 + w)) - x) - y) - z)), some (iv (hmS x y z)), some (iv (wvP ρ g w x y z))]) dX11_findHands_219 rfl rfl (by decide) rfl ?_
                refine e_goto (pc' := 71) dX11_findHands_222 (by decide) ?_
                have hm : ∀ j, ((upI τ2 106 (hmS x y z) (wvP ρ g w x y z))).1 106 j = if j = hmS x y z then max (τ.1 106 j) (wvP ρ g w x y z) else τ.1 106 j := by
                  intro j
                  by_cases hj : j = hmS x y z
                  · rw [if_pos hj, hj]
                    refine (if_pos ⟨rfl, rfl⟩ : ((upI τ2 106 (hmS x y z) (wvP ρ g w x y z))).1 106 (hmS x y z) = (wvP ρ g w x y z)).trans ?_
                    omega
                  · rw [if_neg hj]
                    exact (if_neg (fun q => hj q.2) : ((upI τ2 106 (hmS x y z) (wvP ρ g w x y z))).1 106 j = τ2.1 106 j).trans (congrFun hb2 j)
                refine ih (z + 1) (upI τ2 106 (hmS x y z) (wvP ρ g w x y z)) _ _ _ (by omega) (by omega) (by omega) ⟨?_, ?_, ?_, ?_⟩ (hI.step hm ⟨hvr.1, by omega⟩ ⟨by omega, by omega, by omega, by omega, by omega, by omega⟩ (fun a b c q => by unfold DnS at *; omega))
                · exact fr_I ((fr_I (fr_I (fr_I (fr_I hS.1 (by decide)) (by decide)) (by decide)) (by decide)).tr (hE2.mono (by decide))) (by decide)
                · exact ⟨hK2.1.trans hS.2.1.1, hK2.2.1.trans hS.2.1.2.1, hK2.2.2.trans hS.2.1.2.2⟩
                · exact RtI.fr (σ := τ2) hR2 rfl
                · intro i p q
                  have e100 : ((upI τ2 106 (hmS x y z) (wvP ρ g w x y z))).1 100 = ((upI (upI (upI (upI τ 100 0 ((((ρ.1 6 (g * 3 + w)) - x) - y) - z)) 100 1 x) 100 2 y) 100 3 z)).1 100 := (hE2 100 (by decide)).1
                  rw [e100]
                  exact hptr i p q
          · refine e_iconst (pc' := 159) dX11_findHands_158 rfl ?_
            refine e_goto (pc' := 163) dX11_findHands_159 (by decide) ?_
            refine e_iadd (pc' := 164) dX11_findHands_163 rfl ?_
            refine e_iload (pc' := 166) dX11_findHands_164 rfl rfl ?_
            refine e_ifI (pc' := 169) (t := 173) dX11_findHands_166 (by decide) rfl ⟨by omega, by omega⟩ (fun (c12_6 : (z : Int) ≤ 0) => ?_) (fun (c12_6 : ¬ ((z : Int) ≤ 0)) => ?_)
            · refine e_iconst (pc' := 174) dX11_findHands_173 rfl ?_
              refine e_iadd (pc' := 175) dX11_findHands_174 rfl ?_
              have hhe : (((1 + 1) + 1) + 0) = hmS x y z := by unfold hmS hnS; (repeat' split) <;> omega
              rw [hhe]
              have hmr := hmS_rg x y z
              refine e_istore (pc' := 177) (L' := [some (rv 88), some (iv g), some (iv w), some (iv (ρ.1 6 (g * 3 + w))), some (iv x), some (iv y), some (iv z), some (iv ((((ρ.1 6 (g * 3 + w)) - x) - y) - z)), some (iv (hmS x y z)), x9]) dX11_findHands_175 rfl (by decide) rfl ?_
              have hptr : ∀ i, 0 ≤ i → i < 4 → 0 ≤ ((upI (upI (upI (upI τ 100 0 ((((ρ.1 6 (g * 3 + w)) - x) - y) - z)) 100 1 x) 100 2 y) 100 3 z)).1 100 i ∧ ((upI (upI (upI (upI τ 100 0 ((((ρ.1 6 (g * 3 + w)) - x) - y) - z)) 100 1 x) 100 2 y) 100 3 z)).1 100 i ≤ 12 := by
                intro i p q
                rcases (show i = 0 ∨ i = 1 ∨ i = 2 ∨ i = 3 by omega) with rfl | rfl | rfl | rfl
                · show 0 ≤ (ρ.1 6 (g * 3 + w)) - x - y - z ∧ (ρ.1 6 (g * 3 + w)) - x - y - z ≤ 12; omega
                · show 0 ≤ x ∧ x ≤ 12; omega
                · show 0 ≤ y ∧ y ≤ 12; omega
                · show 0 ≤ z ∧ z ≤ 12; omega
              refine e_aload_n (pc' := 178) dX11_findHands_177 rfl rfl ?_
              refine e_cv0v (pc' := 181) dX11_findHands_178 rfl k_11_211 h_88 rfl (Nat.le_of_ble_eq_true rfl) rfl rfl ⟨rfl, rfl⟩ ⟨Nat.zero_le _, Nat.zero_le _⟩ (s_m_addUp (σ := (upI (upI (upI (upI τ 100 0 ((((ρ.1 6 (g * 3 + w)) - x) - y) - z)) 100 1 x) 100 2 y) 100 3 z)) ρ 1 ho (by rw [show ((upI (upI (upI (upI τ 100 0 ((((ρ.1 6 (g * 3 + w)) - x) - y) - z)) 100 1 x) 100 2 y) 100 3 z)).1 89 = σ.1 89 from (hS.1 89 (by decide)).1]; exact h.2.2.1) 0 g w (Or.inr ⟨rfl, by rw [show ((upI (upI (upI (upI τ 100 0 ((((ρ.1 6 (g * 3 + w)) - x) - y) - z)) 100 1 x) 100 2 y) 100 3 z)).1 89 = σ.1 89 from (hS.1 89 (by decide)).1]; exact hR⟩) hS.2.1.1 hS.2.1.2.1 hS.2.1.2.2 ⟨by omega, by omega⟩ ⟨by omega, by omega⟩ hptr (by rw [show ((upI (upI (upI (upI τ 100 0 ((((ρ.1 6 (g * 3 + w)) - x) - y) - z)) 100 1 x) 100 2 y) 100 3 z)).1 89 = σ.1 89 from (hS.1 89 (by decide)).1]; exact h.2.2.2.2.2.1) (RtI.fr (σ := τ) hS.2.2.1 rfl)) ?_
              rintro τ2 ⟨hA2, hR2, hE2, hK2⟩
              have hU : ∀ v, uaS ρ 1 g w (((upI (upI (upI (upI τ 100 0 ((((ρ.1 6 (g * 3 + w)) - x) - y) - z)) 100 1 x) 100 2 y) 100 3 z)).1 100) v = wpS ρ g w x y z v := ua_wp hg hw.2 rfl rfl rfl rfl
              have hL2 : LgM τ2 ρ 1 (wpS ρ g w x y z) := by
                intro v a c
                have q := hA2 v a c
                rw [show uaS ρ 1 g w (((upI (upI (upI (upI τ 100 0 ((((ρ.1 6 (g * 3 + w)) - x) - y) - z)) 100 1 x) 100 2 y) 100 3 z)).1 100) = wpS ρ g w x y z from funext hU] at q
                exact q
              have hP2 : MrP (τ2.1 89) ρ 1 := by rw [(hE2 89 (by decide)).1, show ((upI (upI (upI (upI τ 100 0 ((((ρ.1 6 (g * 3 + w)) - x) - y) - z)) 100 1 x) 100 2 y) 100 3 z)).1 89 = σ.1 89 from (hS.1 89 (by decide)).1]; exact h.2.2.1
              have hvr := wvP_rg ho hX (g := g) (w := w) (x := x) (y := y) (z := z) hg
              have hb2 : τ2.1 106 = τ.1 106 := (hE2 106 (by decide)).1
              have hbr := (hI (hmS x y z) hmr.1 hmr.2).1
              refine e_aload_n (pc' := 182) dX11_findHands_181 rfl rfl ?_
              refine e_iload_n (pc' := 183) dX11_findHands_182 rfl rfl ?_
              refine e_cv1i (pc' := 186) dX11_findHands_183 rfl k_11_214 h_88 rfl (Nat.le_of_ble_eq_true rfl) rfl rfl ⟨rfl, rfl⟩ ⟨Nat.zero_le _, Nat.zero_le _⟩ (s_m_hasNow2 ρ 1 ho hX hP2 (wpS ρ g w x y z) (fun v _ _ => wpS_rg _ _ _ _ _ _ _) hL2 g ⟨hg.1, by omega⟩) ?_
              intro r σ' hr; rw [hr.1, hr.2]; clear hr
              refine e_istore (pc' := 188) (L' := [some (rv 88), some (iv g), some (iv w), some (iv (ρ.1 6 (g * 3 + w))), some (iv x), some (iv y), some (iv z), some (iv ((((ρ.1 6 (g * 3 + w)) - x) - y) - z)), some (iv (hmS x y z)), some (iv (wvP ρ g w x y z))]) dX11_findHands_186 rfl (by decide) rfl ?_
              refine e_aload_n (pc' := 189) dX11_findHands_188 rfl rfl ?_
              refine e_getR (pc' := 192) dX11_findHands_189 rfl f_11_70 h_88 rfl ?_
              refine e_iload (pc' := 194) dX11_findHands_192 rfl rfl ?_
              refine e_iload (pc' := 196) dX11_findHands_194 rfl rfl ?_
              refine e_aload_n (pc' := 197) dX11_findHands_196 rfl rfl ?_
              refine e_getR (pc' := 200) dX11_findHands_197 rfl f_11_70 h_88 rfl ?_
              refine e_iload (pc' := 202) dX11_findHands_200 rfl rfl ?_
              refine e_iald (pc' := 203) (v := (τ.1 106 (hmS x y z))) dX11_findHands_202 rfl h_106 (by decide) (by omega) (by omega) (congrFun hb2 _) ?_
              refine e_icmpI (pc' := 206) (t := 211) dX11_findHands_203 (by decide) rfl ⟨by omega, by omega⟩ ⟨by omega, by omega⟩ (fun (c14_7 : ((wvP ρ g w x y z) : Int) ≤ (τ.1 106 (hmS x y z))) => ?_) (fun (c14_7 : ¬ (((wvP ρ g w x y z) : Int) ≤ (τ.1 106 (hmS x y z)))) => ?_)
              · refine e_aload_n (pc' := 212) dX11_findHands_211 rfl rfl ?_
                refine e_getR (pc' := 215) dX11_findHands_212 rfl f_11_70 h_88 rfl ?_
                refine e_iload (pc' := 217) dX11_findHands_215 rfl rfl ?_
                refine e_iald (pc' := 218) (v := (τ.1 106 (hmS x y z))) dX11_findHands_217 rfl h_106 (by decide) (by omega) (by omega) (congrFun hb2 _) ?_
                refine e_iast (pc' := 219) dX11_findHands_218 rfl h_106 (by decide) (by omega) (by omega) ?_
                refine e_iinc (pc' := 222) (L' := [some (rv 88), some (iv g), some (iv w), some (iv (ρ.1 6 (g * 3 + w))), some (iv x), some (iv y), some (iv (z + 1)), some (iv ((((ρ.1 6 (g * 3 + w)) - x) - y) - z)), some (iv (hmS x y z)), some (iv (wvP ρ g w x y z))]) dX11_findHands_219 rfl rfl (by decide) rfl ?_
                refine e_goto (pc' := 71) dX11_findHands_222 (by decide) ?_
                have hm : ∀ j, ((upI τ2 106 (hmS x y z) (τ.1 106 (hmS x y z)))).1 106 j = if j = hmS x y z then max (τ.1 106 j) (wvP ρ g w x y z) else τ.1 106 j := by
                  intro j
                  by_cases hj : j = hmS x y z
                  · rw [if_pos hj, hj]
                    refine (if_pos ⟨rfl, rfl⟩ : ((upI τ2 106 (hmS x y z) (τ.1 106 (hmS x y z)))).1 106 (hmS x y z) = (τ.1 106 (hmS x y z))).trans ?_
                    omega
                  · rw [if_neg hj]
                    exact (if_neg (fun q => hj q.2) : ((upI τ2 106 (hmS x y z) (τ.1 106 (hmS x y z)))).1 106 j = τ2.1 106 j).trans (congrFun hb2 j)
                refine ih (z + 1) (upI τ2 106 (hmS x y z) (τ.1 106 (hmS x y z))) _ _ _ (by omega) (by omega) (by omega) ⟨?_, ?_, ?_, ?_⟩ (hI.step hm ⟨hvr.1, by omega⟩ ⟨by omega, by omega, by omega, by omega, by omega, by omega⟩ (fun a b c q => by unfold DnS at *; omega))
                · exact fr_I ((fr_I (fr_I (fr_I (fr_I hS.1 (by decide)) (by decide)) (by decide)) (by decide)).tr (hE2.mono (by decide))) (by decide)
                · exact ⟨hK2.1.trans hS.2.1.1, hK2.2.1.trans hS.2.1.2.1, hK2.2.2.trans hS.2.1.2.2⟩
                · exact RtI.fr (σ := τ2) hR2 rfl
                · intro i p q
                  have e100 : ((upI τ2 106 (hmS x y z) (τ.1 106 (hmS x y z)))).1 100 = ((upI (upI (upI (upI τ 100 0 ((((ρ.1 6 (g * 3 + w)) - x) - y) - z)) 100 1 x) 100 2 y) 100 3 z)).1 100 := (hE2 100 (by decide)).1
                  rw [e100]
                  exact hptr i p q
              · refine e_iload (pc' := 208) dX11_findHands_206 rfl rfl ?_
                refine e_goto (pc' := 218) dX11_findHands_208 (by decide) ?_
                refine e_iast (pc' := 219) dX11_findHands_218 rfl h_106 (by decide) (by omega) (by omega) ?_
                refine e_iinc (pc' := 222) (L' := [some (rv 88), some (iv g), some (iv w), some (iv (ρ.1 6 (g * 3 + w))), some (iv x), some (iv y), some (iv (z + 1)), some (iv ((((ρ.1 6 (g * 3 + w)) - x) - y) - z)), some (iv (hmS x y z)), some (iv (wvP ρ g w x y z))]) dX11_findHands_219 rfl rfl (by decide) rfl ?_
                refine e_goto (pc' := 71) dX11_findHands_222 (by decide) ?_
                have hm : ∀ j, ((upI τ2 106 (hmS x y z) (wvP ρ g w x y z))).1 106 j = if j = hmS x y z then max (τ.1 106 j) (wvP ρ g w x y z) else τ.1 106 j := by
                  intro j
                  by_cases hj : j = hmS x y z
                  · rw [if_pos hj, hj]
                    refine (if_pos ⟨rfl, rfl⟩ : ((upI τ2 106 (hmS x y z) (wvP ρ g w x y z))).1 106 (hmS x y z) = (wvP ρ g w x y z)).trans ?_
                    omega
                  · rw [if_neg hj]
                    exact (if_neg (fun q => hj q.2) : ((upI τ2 106 (hmS x y z) (wvP ρ g w x y z))).1 106 j = τ2.1 106 j).trans (congrFun hb2 j)
                refine ih (z + 1) (upI τ2 106 (hmS x y z) (wvP ρ g w x y z)) _ _ _ (by omega) (by omega) (by omega) ⟨?_, ?_, ?_, ?_⟩ (hI.step hm ⟨hvr.1, by omega⟩ ⟨by omega, by omega, by omega, by omega, by omega, by omega⟩ (fun a b c q => by unfold DnS at *; omega))
                · exact fr_I ((fr_I (fr_I (fr_I (fr_I hS.1 (by decide)) (by decide)) (by decide)) (by decide)).tr (hE2.mono (by decide))) (by decide)
                · exact ⟨hK2.1.trans hS.2.1.1, hK2.2.1.trans hS.2.1.2.1, hK2.2.2.trans hS.2.1.2.2⟩
                · exact RtI.fr (σ := τ2) hR2 rfl
                · intro i p q
                  have e100 : ((upI τ2 106 (hmS x y z) (wvP ρ g w x y z))).1 100 = ((upI (upI (upI (upI τ 100 0 ((((ρ.1 6 (g * 3 + w)) - x) - y) - z)) 100 1 x) 100 2 y) 100 3 z)).1 100 := (hE2 100 (by decide)).1
                  rw [e100]
                  exact hptr i p q
            · refine e_iconst (pc' := 170) dX11_findHands_169 rfl ?_
              refine e_goto (pc' := 174) dX11_findHands_170 (by decide) ?_
              refine e_iadd (pc' := 175) dX11_findHands_174 rfl ?_
              have hhe : (((1 + 1) + 1) + 1) = hmS x y z := by unfold hmS hnS; (repeat' split) <;> omega
              rw [hhe]
              have hmr := hmS_rg x y z
              refine e_istore (pc' := 177) (L' := [some (rv 88), some (iv g), some (iv w), some (iv (ρ.1 6 (g * 3 + w))), some (iv x), some (iv y), some (iv z), some (iv ((((ρ.1 6 (g * 3 + w)) - x) - y) - z)), some (iv (hmS x y z)), x9]) dX11_findHands_175 rfl (by decide) rfl ?_
              have hptr : ∀ i, 0 ≤ i → i < 4 → 0 ≤ ((upI (upI (upI (upI τ 100 0 ((((ρ.1 6 (g * 3 + w)) - x) - y) - z)) 100 1 x) 100 2 y) 100 3 z)).1 100 i ∧ ((upI (upI (upI (upI τ 100 0 ((((ρ.1 6 (g * 3 + w)) - x) - y) - z)) 100 1 x) 100 2 y) 100 3 z)).1 100 i ≤ 12 := by
                intro i p q
                rcases (show i = 0 ∨ i = 1 ∨ i = 2 ∨ i = 3 by omega) with rfl | rfl | rfl | rfl
                · show 0 ≤ (ρ.1 6 (g * 3 + w)) - x - y - z ∧ (ρ.1 6 (g * 3 + w)) - x - y - z ≤ 12; omega
                · show 0 ≤ x ∧ x ≤ 12; omega
                · show 0 ≤ y ∧ y ≤ 12; omega
                · show 0 ≤ z ∧ z ≤ 12; omega
              refine e_aload_n (pc' := 178) dX11_findHands_177 rfl rfl ?_
              refine e_cv0v (pc' := 181) dX11_findHands_178 rfl k_11_211 h_88 rfl (Nat.le_of_ble_eq_true rfl) rfl rfl ⟨rfl, rfl⟩ ⟨Nat.zero_le _, Nat.zero_le _⟩ (s_m_addUp (σ := (upI (upI (upI (upI τ 100 0 ((((ρ.1 6 (g * 3 + w)) - x) - y) - z)) 100 1 x) 100 2 y) 100 3 z)) ρ 1 ho (by rw [show ((upI (upI (upI (upI τ 100 0 ((((ρ.1 6 (g * 3 + w)) - x) - y) - z)) 100 1 x) 100 2 y) 100 3 z)).1 89 = σ.1 89 from (hS.1 89 (by decide)).1]; exact h.2.2.1) 0 g w (Or.inr ⟨rfl, by rw [show ((upI (upI (upI (upI τ 100 0 ((((ρ.1 6 (g * 3 + w)) - x) - y) - z)) 100 1 x) 100 2 y) 100 3 z)).1 89 = σ.1 89 from (hS.1 89 (by decide)).1]; exact hR⟩) hS.2.1.1 hS.2.1.2.1 hS.2.1.2.2 ⟨by omega, by omega⟩ ⟨by omega, by omega⟩ hptr (by rw [show ((upI (upI (upI (upI τ 100 0 ((((ρ.1 6 (g * 3 + w)) - x) - y) - z)) 100 1 x) 100 2 y) 100 3 z)).1 89 = σ.1 89 from (hS.1 89 (by decide)).1]; exact h.2.2.2.2.2.1) (RtI.fr (σ := τ) hS.2.2.1 rfl)) ?_
              rintro τ2 ⟨hA2, hR2, hE2, hK2⟩
              have hU : ∀ v, uaS ρ 1 g w (((upI (upI (upI (upI τ 100 0 ((((ρ.1 6 (g * 3 + w)) - x) - y) - z)) 100 1 x) 100 2 y) 100 3 z)).1 100) v = wpS ρ g w x y z v := ua_wp hg hw.2 rfl rfl rfl rfl
              have hL2 : LgM τ2 ρ 1 (wpS ρ g w x y z) := by
                intro v a c
                have q := hA2 v a c
                rw [show uaS ρ 1 g w (((upI (upI (upI (upI τ 100 0 ((((ρ.1 6 (g * 3 + w)) - x) - y) - z)) 100 1 x) 100 2 y) 100 3 z)).1 100) = wpS ρ g w x y z from funext hU] at q
                exact q
              have hP2 : MrP (τ2.1 89) ρ 1 := by rw [(hE2 89 (by decide)).1, show ((upI (upI (upI (upI τ 100 0 ((((ρ.1 6 (g * 3 + w)) - x) - y) - z)) 100 1 x) 100 2 y) 100 3 z)).1 89 = σ.1 89 from (hS.1 89 (by decide)).1]; exact h.2.2.1
              have hvr := wvP_rg ho hX (g := g) (w := w) (x := x) (y := y) (z := z) hg
              have hb2 : τ2.1 106 = τ.1 106 := (hE2 106 (by decide)).1
              have hbr := (hI (hmS x y z) hmr.1 hmr.2).1
              refine e_aload_n (pc' := 182) dX11_findHands_181 rfl rfl ?_
              refine e_iload_n (pc' := 183) dX11_findHands_182 rfl rfl ?_
              refine e_cv1i (pc' := 186) dX11_findHands_183 rfl k_11_214 h_88 rfl (Nat.le_of_ble_eq_true rfl) rfl rfl ⟨rfl, rfl⟩ ⟨Nat.zero_le _, Nat.zero_le _⟩ (s_m_hasNow2 ρ 1 ho hX hP2 (wpS ρ g w x y z) (fun v _ _ => wpS_rg _ _ _ _ _ _ _) hL2 g ⟨hg.1, by omega⟩) ?_
              intro r σ' hr; rw [hr.1, hr.2]; clear hr
              refine e_istore (pc' := 188) (L' := [some (rv 88), some (iv g), some (iv w), some (iv (ρ.1 6 (g * 3 + w))), some (iv x), some (iv y), some (iv z), some (iv ((((ρ.1 6 (g * 3 + w)) - x) - y) - z)), some (iv (hmS x y z)), some (iv (wvP ρ g w x y z))]) dX11_findHands_186 rfl (by decide) rfl ?_
              refine e_aload_n (pc' := 189) dX11_findHands_188 rfl rfl ?_
              refine e_getR (pc' := 192) dX11_findHands_189 rfl f_11_70 h_88 rfl ?_
              refine e_iload (pc' := 194) dX11_findHands_192 rfl rfl ?_
              refine e_iload (pc' := 196) dX11_findHands_194 rfl rfl ?_
              refine e_aload_n (pc' := 197) dX11_findHands_196 rfl rfl ?_
              refine e_getR (pc' := 200) dX11_findHands_197 rfl f_11_70 h_88 rfl ?_
              refine e_iload (pc' := 202) dX11_findHands_200 rfl rfl ?_
              refine e_iald (pc' := 203) (v := (τ.1 106 (hmS x y z))) dX11_findHands_202 rfl h_106 (by decide) (by omega) (by omega) (congrFun hb2 _) ?_
              refine e_icmpI (pc' := 206) (t := 211) dX11_findHands_203 (by decide) rfl ⟨by omega, by omega⟩ ⟨by omega, by omega⟩ (fun (c14_7 : ((wvP ρ g w x y z) : Int) ≤ (τ.1 106 (hmS x y z))) => ?_) (fun (c14_7 : ¬ (((wvP ρ g w x y z) : Int) ≤ (τ.1 106 (hmS x y z)))) => ?_)
              · refine e_aload_n (pc' := 212) dX11_findHands_211 rfl rfl ?_
                refine e_getR (pc' := 215) dX11_findHands_212 rfl f_11_70 h_88 rfl ?_
                refine e_iload (pc' := 217) dX11_findHands_215 rfl rfl ?_
                refine e_iald (pc' := 218) (v := (τ.1 106 (hmS x y z))) dX11_findHands_217 rfl h_106 (by decide) (by omega) (by omega) (congrFun hb2 _) ?_
                refine e_iast (pc' := 219) dX11_findHands_218 rfl h_106 (by decide) (by omega) (by omega) ?_
                refine e_iinc (pc' := 222) (L' := [some (rv 88), some (iv g), some (iv w), some (iv (ρ.1 6 (g * 3 + w))), some (iv x), some (iv y), some (iv (z + 1)), some (iv ((((ρ.1 6 (g * 3 + w)) - x) - y) - z)), some (iv (hmS x y z)), some (iv (wvP ρ g w x y z))]) dX11_findHands_219 rfl rfl (by decide) rfl ?_
                refine e_goto (pc' := 71) dX11_findHands_222 (by decide) ?_
                have hm : ∀ j, ((upI τ2 106 (hmS x y z) (τ.1 106 (hmS x y z)))).1 106 j = if j = hmS x y z then max (τ.1 106 j) (wvP ρ g w x y z) else τ.1 106 j := by
                  intro j
                  by_cases hj : j = hmS x y z
                  · rw [if_pos hj, hj]
                    refine (if_pos ⟨rfl, rfl⟩ : ((upI τ2 106 (hmS x y z) (τ.1 106 (hmS x y z)))).1 106 (hmS x y z) = (τ.1 106 (hmS x y z))).trans ?_
                    omega
                  · rw [if_neg hj]
                    exact (if_neg (fun q => hj q.2) : ((upI τ2 106 (hmS x y z) (τ.1 106 (hmS x y z)))).1 106 j = τ2.1 106 j).trans (congrFun hb2 j)
                refine ih (z + 1) (upI τ2 106 (hmS x y z) (τ.1 106 (hmS x y z))) _ _ _ (by omega) (by omega) (by omega) ⟨?_, ?_, ?_, ?_⟩ (hI.step hm ⟨hvr.1, by omega⟩ ⟨by omega, by omega, by omega, by omega, by omega, by omega⟩ (fun a b c q => by unfold DnS at *; omega))
                · exact fr_I ((fr_I (fr_I (fr_I (fr_I hS.1 (by decide)) (by decide)) (by decide)) (by decide)).tr (hE2.mono (by decide))) (by decide)
                · exact ⟨hK2.1.trans hS.2.1.1, hK2.2.1.trans hS.2.1.2.1, hK2.2.2.trans hS.2.1.2.2⟩
                · exact RtI.fr (σ := τ2) hR2 rfl
                · intro i p q
                  have e100 : ((upI τ2 106 (hmS x y z) (τ.1 106 (hmS x y z)))).1 100 = ((upI (upI (upI (upI τ 100 0 ((((ρ.1 6 (g * 3 + w)) - x) - y) - z)) 100 1 x) 100 2 y) 100 3 z)).1 100 := (hE2 100 (by decide)).1
                  rw [e100]
                  exact hptr i p q
              · refine e_iload (pc' := 208) dX11_findHands_206 rfl rfl ?_
                refine e_goto (pc' := 218) dX11_findHands_208 (by decide) ?_
                refine e_iast (pc' := 219) dX11_findHands_218 rfl h_106 (by decide) (by omega) (by omega) ?_
                refine e_iinc (pc' := 222) (L' := [some (rv 88), some (iv g), some (iv w), some (iv (ρ.1 6 (g * 3 + w))), some (iv x), some (iv y), some (iv (z + 1)), some (iv ((((ρ.1 6 (g * 3 + w)) - x) - y) - z)), some (iv (hmS x y z)), some (iv (wvP ρ g w x y z))]) dX11_findHands_219 rfl rfl (by decide) rfl ?_
                refine e_goto (pc' := 71) dX11_findHands_222 (by decide) ?_
                have hm : ∀ j, ((upI τ2 106 (hmS x y z) (wvP ρ g w x y z))).1 106 j = if j = hmS x y z then max (τ.1 106 j) (wvP ρ g w x y z) else τ.1 106 j := by
                  intro j
                  by_cases hj : j = hmS x y z
                  · rw [if_pos hj, hj]
                    refine (if_pos ⟨rfl, rfl⟩ : ((upI τ2 106 (hmS x y z) (wvP ρ g w x y z))).1 106 (hmS x y z) = (wvP ρ g w x y z)).trans ?_
                    omega
                  · rw [if_neg hj]
                    exact (if_neg (fun q => hj q.2) : ((upI τ2 106 (hmS x y z) (wvP ρ g w x y z))).1 106 j = τ2.1 106 j).trans (congrFun hb2 j)
                refine ih (z + 1) (upI τ2 106 (hmS x y z) (wvP ρ g w x y z)) _ _ _ (by omega) (by omega) (by omega) ⟨?_, ?_, ?_, ?_⟩ (hI.step hm ⟨hvr.1, by omega⟩ ⟨by omega, by omega, by omega, by omega, by omega, by omega⟩ (fun a b c q => by unfold DnS at *; omega))
                · exact fr_I ((fr_I (fr_I (fr_I (fr_I hS.1 (by decide)) (by decide)) (by decide)) (by decide)).tr (hE2.mono (by decide))) (by decide)
                · exact ⟨hK2.1.trans hS.2.1.1, hK2.2.1.trans hS.2.1.2.1, hK2.2.2.trans hS.2.1.2.2⟩
                · exact RtI.fr (σ := τ2) hR2 rfl
                · intro i p q
                  have e100 : ((upI τ2 106 (hmS x y z) (wvP ρ g w x y z))).1 100 = ((upI (upI (upI (upI τ 100 0 ((((ρ.1 6 (g * 3 + w)) - x) - y) - z)) 100 1 x) 100 2 y) 100 3 z)).1 100 := (hE2 100 (by decide)).1
                  rw [e100]
                  exact hptr i p q

set_option maxHeartbeats 4000000 in
set_option maxRecDepth 100000 in
theorem l_fhY {X : AX} {d : Nat} {σ ρ : SG} {Q : Option AV → SG → Prop} (h : MdI σ ρ 1) (hR : MrR (σ.1 89) ρ 1) (hpl0 : σ.1 88 18 = 0) (g w : Int) (hg : 0 ≤ g ∧ g < (ρ.1 1 6)) (hw : 0 ≤ w ∧ w < (ρ.1 1 7)) (x : Int) (hx : 0 ≤ x ∧ x ≤ 12) (hK : ∀ (τ : SG) (y5 y6 y7 y8 y9 : Option AV), (Fr [88, 92, 93, 94, 95, 96, 97, 98, 99, 100, 106] σ τ ∧ (τ.1 88 18 = 0 ∧ τ.1 88 19 = g ∧ τ.1 88 20 = w) ∧ RtI τ ∧ ∀ i, 0 ≤ i → i < 4 → 0 ≤ τ.1 100 i ∧ τ.1 100 i ≤ 12) → BhI (wvP ρ g w) (ρ.1 6 (g * 3 + w)) (τ.1 106) (DnS (x + 1) 0 0) → Ev X 0 0 (d + 7) mX11_findHands 231 [some (rv 88), some (iv g), some (iv w), some (iv (ρ.1 6 (g * 3 + w))), some (iv x), y5, y6, y7, y8, y9] [] τ Q) : ∀ (k : Nat) (y : Int) (τ : SG) (x6 x7 x8 x9 : Option AV), 0 ≤ y → y ≤ 13 → 13 - y < k → (Fr [88, 92, 93, 94, 95, 96, 97, 98, 99, 100, 106] σ τ ∧ (τ.1 88 18 = 0 ∧ τ.1 88 19 = g ∧ τ.1 88 20 = w) ∧ RtI τ ∧ ∀ i, 0 ≤ i → i < 4 → 0 ≤ τ.1 100 i ∧ τ.1 100 i ≤ 12) → BhI (wvP ρ g w) (ρ.1 6 (g * 3 + w)) (τ.1 106) (DnS x y 0) → Ev X 0 0 (d + 7) mX11_findHands 52 [some (rv 88), some (iv g), some (iv w), some (iv (ρ.1 6 (g * 3 + w))), some (iv x), some (iv y), x6, x7, x8, x9] [] τ Q := by
  intro k
  induction k with
  | zero => intros; omega
  | succ k ih =>
  intro y τ x6 x7 x8 x9 hy0 hy1 hyk hS hI
  have ho := h.1
  have hX := h.2.1
  have hG := ho.1
  have hW := ho.2.1
  have hcor : 0 ≤ (ρ.1 6 (g * 3 + w)) ∧ (ρ.1 6 (g * 3 + w)) ≤ 12 := ho.2.2.2.2.2.2.1 (g * 3 + w) (by omega) (by omega)
  refine e_iload (pc' := 54) dX11_findHands_52 rfl rfl ?_
  refine e_iload (pc' := 56) dX11_findHands_54 rfl rfl ?_
  refine e_icmpI (pc' := 59) (t := 231) dX11_findHands_56 (by decide) rfl ⟨by omega, by omega⟩ ⟨by omega, by omega⟩ (fun (c2_1 : x < (y : Int)) => ?_) (fun (c2_1 : ¬ (x < (y : Int))) => ?_)
  · exact hK τ _ _ _ _ _ hS (hI.mono (fun a b c p q => by unfold DnS pmS at *; omega))
  · refine e_iload (pc' := 61) dX11_findHands_59 rfl rfl ?_
    refine e_iload (pc' := 63) dX11_findHands_61 rfl rfl ?_
    refine e_iadd (pc' := 64) dX11_findHands_63 rfl ?_
    refine e_iload_n (pc' := 65) dX11_findHands_64 rfl rfl ?_
    refine e_icmpI (pc' := 68) (t := 231) dX11_findHands_65 (by decide) rfl ⟨by omega, by omega⟩ ⟨by omega, by omega⟩ (fun (c4_2 : (ρ.1 6 (g * 3 + w)) < ((x + y) : Int)) => ?_) (fun (c4_2 : ¬ ((ρ.1 6 (g * 3 + w)) < ((x + y) : Int))) => ?_)
    · exact hK τ _ _ _ _ _ hS (hI.mono (fun a b c p q => by unfold DnS pmS at *; omega))
    · refine e_iconst (pc' := 69) dX11_findHands_68 rfl ?_
      refine e_istore (pc' := 71) (L' := [some (rv 88), some (iv g), some (iv w), some (iv (ρ.1 6 (g * 3 + w))), some (iv x), some (iv y), some (iv 0), x7, x8, x9]) dX11_findHands_69 rfl (by decide) rfl ?_
      refine l_fhZ h hR hpl0 g w hg hw x y hx ⟨by omega, by omega⟩ (fun τ' y6 y7 y8 y9 hS' hI' => ?_) 14 0 τ _ _ _ (by decide) (by decide) (by decide) hS hI
      refine e_iinc (pc' := 228) (L' := [some (rv 88), some (iv g), some (iv w), some (iv (ρ.1 6 (g * 3 + w))), some (iv x), some (iv (y + 1)), y6, y7, y8, y9]) dX11_findHands_225 rfl rfl (by decide) rfl ?_
      refine e_goto (pc' := 52) dX11_findHands_228 (by decide) ?_
      exact ih (y + 1) τ' _ _ _ _ (by omega) (by omega) (by omega) hS' hI'

set_option maxHeartbeats 4000000 in
set_option maxRecDepth 100000 in
theorem l_fhX {X : AX} {d : Nat} {σ ρ : SG} (h : MdI σ ρ 1) (hR : MrR (σ.1 89) ρ 1) (hpl0 : σ.1 88 18 = 0) (g w : Int) (hg : 0 ≤ g ∧ g < (ρ.1 1 6)) (hw : 0 ≤ w ∧ w < (ρ.1 1 7)) : ∀ (k : Nat) (x : Int) (τ : SG) (x5 x6 x7 x8 x9 : Option AV), 0 ≤ x → x ≤ 13 → 13 - x < k → (Fr [88, 92, 93, 94, 95, 96, 97, 98, 99, 100, 106] σ τ ∧ (τ.1 88 18 = 0 ∧ τ.1 88 19 = g ∧ τ.1 88 20 = w) ∧ RtI τ ∧ ∀ i, 0 ≤ i → i < 4 → 0 ≤ τ.1 100 i ∧ τ.1 100 i ≤ 12) → BhI (wvP ρ g w) (ρ.1 6 (g * 3 + w)) (τ.1 106) (DnS x 0 0) → Ev X 0 0 (d + 7) mX11_findHands 43 [some (rv 88), some (iv g), some (iv w), some (iv (ρ.1 6 (g * 3 + w))), some (iv x), x5, x6, x7, x8, x9] [] τ (QV (fun σ' => BhI (wvP ρ g w) (ρ.1 6 (g * 3 + w)) (σ'.1 106) (fun _ _ _ => True) ∧ Fr [88, 92, 93, 94, 95, 96, 97, 98, 99, 100, 106] σ σ' ∧ KA σ σ' ∧ MdI σ' ρ 1)) := by
  intro k
  induction k with
  | zero => intros; omega
  | succ k ih =>
  intro x τ x5 x6 x7 x8 x9 hx0 hx1 hxk hS hI
  have ho := h.1
  have hX := h.2.1
  have hG := ho.1
  have hW := ho.2.1
  have hcor : 0 ≤ (ρ.1 6 (g * 3 + w)) ∧ (ρ.1 6 (g * 3 + w)) ≤ 12 := ho.2.2.2.2.2.2.1 (g * 3 + w) (by omega) (by omega)
  refine e_iload (pc' := 45) dX11_findHands_43 rfl rfl ?_
  refine e_iload_n (pc' := 46) dX11_findHands_45 rfl rfl ?_
  refine e_icmpI (pc' := 49) (t := 237) dX11_findHands_46 (by decide) rfl ⟨by omega, by omega⟩ ⟨by omega, by omega⟩ (fun (c2_1 : (ρ.1 6 (g * 3 + w)) < (x : Int)) => ?_) (fun (c2_1 : ¬ ((ρ.1 6 (g * 3 + w)) < (x : Int))) => ?_)
  · refine e_aload_n (pc' := 238) dX11_findHands_237 rfl rfl ?_
    refine e_iconst (pc' := 239) dX11_findHands_238 rfl ?_
    refine e_putI (pc' := 242) dX11_findHands_239 rfl f_11_45 h_88 rfl rfl rfl ?_
    refine e_aload_n (pc' := 243) dX11_findHands_242 rfl rfl ?_
    refine e_iconst (pc' := 244) dX11_findHands_243 rfl ?_
    refine e_putI (pc' := 247) dX11_findHands_244 rfl f_11_49 h_88 rfl rfl rfl ?_
    exact e_vret dX11_findHands_247 rfl ⟨rfl, Nat.le_refl _⟩ (by
    have hK : KA σ (upI (upI τ 88 19 (-1)) 88 20 (-1)) := ⟨hS.2.1.1.trans hpl0.symm, (show (-1 : Int) = σ.1 88 19 from h.2.2.2.2.1.1.symm), (show (-1 : Int) = σ.1 88 20 from h.2.2.2.2.1.2.symm)⟩
    have hFt : Fr [88, 92, 93, 94, 95, 96, 97, 98, 99, 100, 106] σ (upI (upI τ 88 19 (-1)) 88 20 (-1)) := fr_I (fr_I hS.1 (by decide)) (by decide)
    refine ⟨rfl, hI.mono (fun a b c p q => by unfold DnS pmS at *; omega), hFt, hK, ?_⟩
    obtain ⟨q1, q2, q3, q4, q5, q6, q7, q8⟩ := h
    have e89 : ((upI (upI τ 88 19 (-1)) 88 20 (-1))).1 89 = σ.1 89 := (hFt 89 (by decide)).1
    show MdI (upI (upI τ 88 19 (-1)) 88 20 (-1)) ρ 1
    unfold MdI
    rw [e89, hK.1, hK.2.1, hK.2.2]
    exact ⟨q1, q2, q3, q4, q5, q6, RtI.fr (σ := τ) hS.2.2.1 rfl, hS.2.2.2⟩)
  · refine e_iconst (pc' := 50) dX11_findHands_49 rfl ?_
    refine e_istore (pc' := 52) (L' := [some (rv 88), some (iv g), some (iv w), some (iv (ρ.1 6 (g * 3 + w))), some (iv x), some (iv 0), x6, x7, x8, x9]) dX11_findHands_50 rfl (by decide) rfl ?_
    refine l_fhY h hR hpl0 g w hg hw x ⟨by omega, by omega⟩ (fun τ' y5 y6 y7 y8 y9 hS' hI' => ?_) 14 0 τ _ _ _ _ (by decide) (by decide) (by decide) hS hI
    refine e_iinc (pc' := 234) (L' := [some (rv 88), some (iv g), some (iv w), some (iv (ρ.1 6 (g * 3 + w))), some (iv (x + 1)), y5, y6, y7, y8, y9]) dX11_findHands_231 rfl rfl (by decide) rfl ?_
    refine e_goto (pc' := 43) dX11_findHands_234 (by decide) ?_
    exact ih (x + 1) τ' _ _ _ _ _ (by omega) (by omega) (by omega) hS' hI'

set_option maxHeartbeats 4000000 in
set_option maxRecDepth 100000 in
theorem s_m_findHands {X : AX} {d : Nat} {σ ρ : SG} (h : MdI σ ρ 1) (hR : MrR (σ.1 89) ρ 1) (hpl0 : σ.1 88 18 = 0) (g w : Int) (hg : 0 ≤ g ∧ g < (ρ.1 1 6)) (hw : 0 ≤ w ∧ w < (ρ.1 1 7)) : Ev X 0 0 (d + 7) mX11_findHands 0 [some (rv 88), some (iv g), some (iv w), none, none, none, none, none, none, none] [] σ (QV (fun σ' => BhI (wvP ρ g w) (ρ.1 6 (g * 3 + w)) (σ'.1 106) (fun _ _ _ => True) ∧ Fr [88, 92, 93, 94, 95, 96, 97, 98, 99, 100, 106] σ σ' ∧ KA σ σ' ∧ MdI σ' ρ 1)) := by
  have ho := h.1
  have hX := h.2.1
  have hG := ho.1
  have hW := ho.2.1
  have hcor : 0 ≤ (ρ.1 6 (g * 3 + w)) ∧ (ρ.1 6 (g * 3 + w)) ≤ 12 := ho.2.2.2.2.2.2.1 (g * 3 + w) (by omega) (by omega)
  have hgft : σ.1 89 (35 + 3 * g + w) = ρ.1 6 (g * 3 + w) := by
    rw [show 35 + 3 * g + w = 35 + (g * 3 + w) by omega]
    exact (h.2.2.1.2.2.2 (g * 3 + w) (by omega) (by omega)).2.2
  refine e_aload_n (pc' := 1) dX11_findHands_0 rfl rfl ?_
  refine e_iload_n (pc' := 2) dX11_findHands_1 rfl rfl ?_
  refine e_iload_n (pc' := 3) dX11_findHands_2 rfl rfl ?_
  refine e_cv2i (pc' := 6) dX11_findHands_3 rfl k_11_186 h_88 rfl (Nat.le_of_ble_eq_true rfl) rfl rfl ⟨rfl, rfl⟩ ⟨Nat.zero_le _, Nat.zero_le _⟩ (s_m_gift g w (by omega) (by omega)) ?_
  intro r σ' hr; rw [hr.1, hr.2, show σ.1 89 (35 + 3 * g + w) = ρ.1 6 (g * 3 + w) from hgft]; clear hr
  refine e_istore_n (pc' := 7) (L' := [some (rv 88), some (iv g), some (iv w), some (iv (ρ.1 6 (g * 3 + w))), none, none, none, none, none, none]) dX11_findHands_6 rfl (by decide) rfl ?_
  refine e_iconst (pc' := 8) dX11_findHands_7 rfl ?_
  refine e_istore (pc' := 10) (L' := [some (rv 88), some (iv g), some (iv w), some (iv (ρ.1 6 (g * 3 + w))), some (iv 0), none, none, none, none, none]) dX11_findHands_8 rfl (by decide) rfl ?_
  refine e_iload (pc' := 12) dX11_findHands_10 rfl rfl ?_
  refine e_iconst (pc' := 13) dX11_findHands_12 rfl ?_
  refine e_icmpI (pc' := 16) (t := 30) dX11_findHands_13 (by decide) rfl ⟨by omega, by omega⟩ ⟨by omega, by omega⟩ (fun c2_1 => absurd (show 5 ≤ (0 : Int) from c2_1) (by decide)) (fun _ => ?_)
  refine e_aload_n (pc' := 17) dX11_findHands_16 rfl rfl ?_
  refine e_getR (pc' := 20) dX11_findHands_17 rfl f_11_70 h_88 rfl ?_
  refine e_iload (pc' := 22) dX11_findHands_20 rfl rfl ?_
  refine e_iconst (pc' := 23) dX11_findHands_22 rfl ?_
  refine e_iast (pc' := 24) dX11_findHands_23 rfl h_106 (by decide) (by omega) (by omega) ?_
  refine e_iinc (pc' := 27) (L' := [some (rv 88), some (iv g), some (iv w), some (iv (ρ.1 6 (g * 3 + w))), some (iv 1), none, none, none, none, none]) dX11_findHands_24 rfl rfl (by decide) rfl ?_
  refine e_goto (pc' := 10) dX11_findHands_27 (by decide) ?_
  refine e_iload (pc' := 12) dX11_findHands_10 rfl rfl ?_
  refine e_iconst (pc' := 13) dX11_findHands_12 rfl ?_
  refine e_icmpI (pc' := 16) (t := 30) dX11_findHands_13 (by decide) rfl ⟨by omega, by omega⟩ ⟨by omega, by omega⟩ (fun c2_2 => absurd (show 5 ≤ (1 : Int) from c2_2) (by decide)) (fun _ => ?_)
  refine e_aload_n (pc' := 17) dX11_findHands_16 rfl rfl ?_
  refine e_getR (pc' := 20) dX11_findHands_17 rfl f_11_70 h_88 rfl ?_
  refine e_iload (pc' := 22) dX11_findHands_20 rfl rfl ?_
  refine e_iconst (pc' := 23) dX11_findHands_22 rfl ?_
  refine e_iast (pc' := 24) dX11_findHands_23 rfl h_106 (by decide) (by omega) (by omega) ?_
  refine e_iinc (pc' := 27) (L' := [some (rv 88), some (iv g), some (iv w), some (iv (ρ.1 6 (g * 3 + w))), some (iv 2), none, none, none, none, none]) dX11_findHands_24 rfl rfl (by decide) rfl ?_
  refine e_goto (pc' := 10) dX11_findHands_27 (by decide) ?_
  refine e_iload (pc' := 12) dX11_findHands_10 rfl rfl ?_
  refine e_iconst (pc' := 13) dX11_findHands_12 rfl ?_
  refine e_icmpI (pc' := 16) (t := 30) dX11_findHands_13 (by decide) rfl ⟨by omega, by omega⟩ ⟨by omega, by omega⟩ (fun c2_3 => absurd (show 5 ≤ (2 : Int) from c2_3) (by decide)) (fun _ => ?_)
  refine e_aload_n (pc' := 17) dX11_findHands_16 rfl rfl ?_
  refine e_getR (pc' := 20) dX11_findHands_17 rfl f_11_70 h_88 rfl ?_
  refine e_iload (pc' := 22) dX11_findHands_20 rfl rfl ?_
  refine e_iconst (pc' := 23) dX11_findHands_22 rfl ?_
  refine e_iast (pc' := 24) dX11_findHands_23 rfl h_106 (by decide) (by omega) (by omega) ?_
  refine e_iinc (pc' := 27) (L' := [some (rv 88), some (iv g), some (iv w), some (iv (ρ.1 6 (g * 3 + w))), some (iv 3), none, none, none, none, none]) dX11_findHands_24 rfl rfl (by decide) rfl ?_
  refine e_goto (pc' := 10) dX11_findHands_27 (by decide) ?_
  refine e_iload (pc' := 12) dX11_findHands_10 rfl rfl ?_
  refine e_iconst (pc' := 13) dX11_findHands_12 rfl ?_
  refine e_icmpI (pc' := 16) (t := 30) dX11_findHands_13 (by decide) rfl ⟨by omega, by omega⟩ ⟨by omega, by omega⟩ (fun c2_4 => absurd (show 5 ≤ (3 : Int) from c2_4) (by decide)) (fun _ => ?_)
  refine e_aload_n (pc' := 17) dX11_findHands_16 rfl rfl ?_
  refine e_getR (pc' := 20) dX11_findHands_17 rfl f_11_70 h_88 rfl ?_
  refine e_iload (pc' := 22) dX11_findHands_20 rfl rfl ?_
  refine e_iconst (pc' := 23) dX11_findHands_22 rfl ?_
  refine e_iast (pc' := 24) dX11_findHands_23 rfl h_106 (by decide) (by omega) (by omega) ?_
  refine e_iinc (pc' := 27) (L' := [some (rv 88), some (iv g), some (iv w), some (iv (ρ.1 6 (g * 3 + w))), some (iv 4), none, none, none, none, none]) dX11_findHands_24 rfl rfl (by decide) rfl ?_
  refine e_goto (pc' := 10) dX11_findHands_27 (by decide) ?_
  refine e_iload (pc' := 12) dX11_findHands_10 rfl rfl ?_
  refine e_iconst (pc' := 13) dX11_findHands_12 rfl ?_
  refine e_icmpI (pc' := 16) (t := 30) dX11_findHands_13 (by decide) rfl ⟨by omega, by omega⟩ ⟨by omega, by omega⟩ (fun c2_5 => absurd (show 5 ≤ (4 : Int) from c2_5) (by decide)) (fun _ => ?_)
  refine e_aload_n (pc' := 17) dX11_findHands_16 rfl rfl ?_
  refine e_getR (pc' := 20) dX11_findHands_17 rfl f_11_70 h_88 rfl ?_
  refine e_iload (pc' := 22) dX11_findHands_20 rfl rfl ?_
  refine e_iconst (pc' := 23) dX11_findHands_22 rfl ?_
  refine e_iast (pc' := 24) dX11_findHands_23 rfl h_106 (by decide) (by omega) (by omega) ?_
  refine e_iinc (pc' := 27) (L' := [some (rv 88), some (iv g), some (iv w), some (iv (ρ.1 6 (g * 3 + w))), some (iv 5), none, none, none, none, none]) dX11_findHands_24 rfl rfl (by decide) rfl ?_
  refine e_goto (pc' := 10) dX11_findHands_27 (by decide) ?_
  refine e_iload (pc' := 12) dX11_findHands_10 rfl rfl ?_
  refine e_iconst (pc' := 13) dX11_findHands_12 rfl ?_
  refine e_icmpI (pc' := 16) (t := 30) dX11_findHands_13 (by decide) rfl ⟨by omega, by omega⟩ ⟨by omega, by omega⟩ (fun _ => ?_) (fun c2_6 => absurd (show 5 ≤ (5 : Int) by decide) c2_6)
  refine e_aload_n (pc' := 31) dX11_findHands_30 rfl rfl ?_
  refine e_iload_n (pc' := 32) dX11_findHands_31 rfl rfl ?_
  refine e_putI (pc' := 35) dX11_findHands_32 rfl f_11_45 h_88 rfl rfl rfl ?_
  refine e_aload_n (pc' := 36) dX11_findHands_35 rfl rfl ?_
  refine e_iload_n (pc' := 37) dX11_findHands_36 rfl rfl ?_
  refine e_putI (pc' := 40) dX11_findHands_37 rfl f_11_49 h_88 rfl rfl rfl ?_
  refine e_iconst (pc' := 41) dX11_findHands_40 rfl ?_
  refine e_istore (pc' := 43) (L' := [some (rv 88), some (iv g), some (iv w), some (iv (ρ.1 6 (g * 3 + w))), some (iv 0), none, none, none, none, none]) dX11_findHands_41 rfl (by decide) rfl ?_
  refine l_fhX h hR hpl0 g w hg hw 14 0 (upI (upI (upI (upI (upI (upI (upI σ 106 0 (-1)) 106 1 (-1)) 106 2 (-1)) 106 3 (-1)) 106 4 (-1)) 88 19 g) 88 20 w) _ _ _ _ _ (by decide) (by decide) (by decide) ⟨(by repeat (first | exact Fr.rf | assumption | (refine fr_I ?_ (by decide)) | (refine fr_J ?_ (by decide)) | (refine fr_C ?_ (by decide)))), ⟨hpl0, rfl, rfl⟩, RtI.fr (σ := σ) h.2.2.2.2.2.2.1 rfl, h.2.2.2.2.2.2.2⟩ ?_
  intro j p q
  have hj : ((upI (upI (upI (upI (upI (upI (upI σ 106 0 (-1)) 106 1 (-1)) 106 2 (-1)) 106 3 (-1)) 106 4 (-1)) 88 19 g) 88 20 w)).1 106 j = -1 := by
    rcases (show j = 1 ∨ j = 2 ∨ j = 3 ∨ j = 4 by omega) with rfl | rfl | rfl | rfl <;> rfl
  refine ⟨by rw [hj]; decide, fun x y z pp dd => absurd dd (by unfold DnS; unfold pmS at pp; omega), Or.inl hj⟩

set_option maxHeartbeats 4000000 in
set_option maxRecDepth 100000 in
theorem s_m_gain {X : AX} {d : Nat} {σ ρ : SG} (h : MdI σ ρ 1) (hR : MrR (σ.1 89) ρ 1) (hpl0 : σ.1 88 18 = 0) (g w : Int) (hg : rg g) (hw : rg w) : Ev X 0 0 (d + 8) mX11_gain 0 [some (rv 88), some (iv g), some (iv w), none, none] [] σ (QI (fun r σ' => (if (0 ≤ g ∧ g < (ρ.1 1 6)) ∧ (0 ≤ w ∧ w < (ρ.1 1 7)) then (∀ m' : Int → Int, PtI (ptM ρ g w) (ρ.1 6 (g * 3 + w)) m' (fun _ _ _ => True) → r = max (max (max 0 (m' 2)) (m' 3)) (m' 4)) else r = -2) ∧ Fr [88, 92, 93, 94, 95, 96, 97, 98, 99, 100, 106] σ σ' ∧ KA σ σ' ∧ MdI σ' ρ 1)) := by
  have ho := h.1
  have hX := h.2.1
  have hG := ho.1
  have hW := ho.2.1
  obtain ⟨hg1, hg2⟩ := hg
  obtain ⟨hw1, hw2⟩ := hw
  refine e_aload_n (pc' := 1) dX11_gain_0 rfl rfl ?_
  refine e_iload_n (pc' := 2) dX11_gain_1 rfl rfl ?_
  refine e_cv1i (pc' := 5) dX11_gain_2 rfl k_11_91 h_88 rfl (Nat.le_of_ble_eq_true rfl) rfl rfl ⟨rfl, rfl⟩ ⟨Nat.zero_le _, Nat.zero_le _⟩ (s_m_isGiver g ⟨by omega, by omega⟩ (by rw [h.2.2.1.1.1]; exact hG)) ?_
  intro r σ' hr; rw [hr.1, hr.2, h.2.2.1.1.1]; clear hr
  refine e_ifI (pc' := 8) (t := 16) dX11_gain_5 (by decide) rfl ⟨by first | omega | (split <;> omega), by first | omega | (split <;> omega)⟩ (fun (c2_1 : ((if 0 ≤ g ∧ g < (ρ.1 1 6) then 1 else 0) : Int) = 0) => ?_) (fun (c2_1 : ¬ (((if 0 ≤ g ∧ g < (ρ.1 1 6) then 1 else 0) : Int) = 0)) => ?_)
  · have c2_1n : ¬ (0 ≤ g ∧ g < (ρ.1 1 6)) := fun hpq_ => absurd (if_pos hpq_ : (if 0 ≤ g ∧ g < (ρ.1 1 6) then (1 : Int) else 0) = 1) (by have := c2_1; omega)
    refine e_bipush (pc' := 18) (z := (-2)) dX11_gain_16 rfl (by decide) ?_
    exact e_iret dX11_gain_18 rfl ⟨rfl, Nat.le_refl _⟩ ⟨_, rfl, by rw [if_neg (by omega)], Fr.rf, KA.rf, h⟩
  · have c2_1n : 0 ≤ g ∧ g < (ρ.1 1 6) := Classical.byContradiction (fun hpq_ => absurd (if_neg hpq_ : (if 0 ≤ g ∧ g < (ρ.1 1 6) then (1 : Int) else 0) = 0) (by have := c2_1; omega))
    refine e_aload_n (pc' := 9) dX11_gain_8 rfl rfl ?_
    refine e_iload_n (pc' := 10) dX11_gain_9 rfl rfl ?_
    refine e_cv1i (pc' := 13) dX11_gain_10 rfl k_11_95 h_88 rfl (Nat.le_of_ble_eq_true rfl) rfl rfl ⟨rfl, rfl⟩ ⟨Nat.zero_le _, Nat.zero_le _⟩ (s_m_isWork w ⟨by omega, by omega⟩ (by rw [h.2.2.1.1.2.1]; exact hW)) ?_
    intro r σ' hr; rw [hr.1, hr.2, h.2.2.1.1.2.1]; clear hr
    refine e_ifI (pc' := 16) (t := 19) dX11_gain_13 (by decide) rfl ⟨by first | omega | (split <;> omega), by first | omega | (split <;> omega)⟩ (fun (c4_2 : ((if 0 ≤ w ∧ w < (ρ.1 1 7) then 1 else 0) : Int) ≠ 0) => ?_) (fun (c4_2 : ¬ (((if 0 ≤ w ∧ w < (ρ.1 1 7) then 1 else 0) : Int) ≠ 0)) => ?_)
    · have c4_2n : 0 ≤ w ∧ w < (ρ.1 1 7) := Classical.byContradiction (fun hpq_ => absurd (if_neg hpq_ : (if 0 ≤ w ∧ w < (ρ.1 1 7) then (1 : Int) else 0) = 0) (by have := c4_2; omega))
      refine e_aload_n (pc' := 20) dX11_gain_19 rfl rfl ?_
      refine e_iload_n (pc' := 21) dX11_gain_20 rfl rfl ?_
      refine e_iload_n (pc' := 22) dX11_gain_21 rfl rfl ?_
      refine e_cv2v (pc' := 25) dX11_gain_22 rfl k_11_242 h_88 rfl (Nat.le_of_ble_eq_true rfl) rfl rfl ⟨rfl, rfl⟩ ⟨Nat.zero_le _, Nat.zero_le _⟩ (s_m_findHands h hR hpl0 g w ⟨by omega, by omega⟩ ⟨by omega, by omega⟩) ?_
      rintro τ1 ⟨hB, hF1, hK1, hM1⟩
      have hbr := (ch_ok ho hX (g := g) ⟨by omega, by omega⟩).2.2
      have hcor : 0 ≤ (ρ.1 6 (g * 3 + w)) ∧ (ρ.1 6 (g * 3 + w)) ≤ 12 := ho.2.2.2.2.2.2.1 (g * 3 + w) (by omega) (by omega)
      have b1 := Bh_1 ⟨by omega, by omega⟩ (by omega) hbr.1 hcor.1 hB
      have b2 := (hB 2 (by decide) (by decide)).1
      have b3 := (hB 3 (by decide) (by decide)).1
      have b4 := (hB 4 (by decide) (by decide)).1
      refine e_aload_n (pc' := 26) dX11_gain_25 rfl rfl ?_
      refine e_getR (pc' := 29) dX11_gain_26 rfl f_11_70 h_88 rfl ?_
      refine e_iconst (pc' := 30) dX11_gain_29 rfl ?_
      refine e_iald (pc' := 31) (v := (bfS ρ 1 g)) dX11_gain_30 rfl h_106 (by decide) (by omega) (by omega) b1 ?_
      refine e_istore_n (pc' := 32) (L' := [some (rv 88), some (iv g), some (iv w), some (iv (bfS ρ 1 g)), none]) dX11_gain_31 rfl (by decide) rfl ?_
      refine e_iconst (pc' := 33) dX11_gain_32 rfl ?_
      refine e_istore (pc' := 35) (L' := [some (rv 88), some (iv g), some (iv w), some (iv (bfS ρ 1 g)), some (iv 2)]) dX11_gain_33 rfl (by decide) rfl ?_
      refine e_iload (pc' := 37) dX11_gain_35 rfl rfl ?_
      refine e_iconst (pc' := 38) dX11_gain_37 rfl ?_
      refine e_icmpI (pc' := 41) (t := 70) dX11_gain_38 (by decide) rfl ⟨by omega, by omega⟩ ⟨by omega, by omega⟩ (fun c6_3 => absurd (show 5 ≤ (2 : Int) from c6_3) (by decide)) (fun _ => ?_)
      refine e_aload_n (pc' := 42) dX11_gain_41 rfl rfl ?_
      refine e_getR (pc' := 45) dX11_gain_42 rfl f_11_70 h_88 rfl ?_
      refine e_iload (pc' := 47) dX11_gain_45 rfl rfl ?_
      refine e_iald (pc' := 48) (v := (τ1.1 106 2)) dX11_gain_47 rfl h_106 (by decide) (by omega) (by omega) rfl ?_
      refine e_iload_n (pc' := 49) dX11_gain_48 rfl rfl ?_
      refine e_icmpI (pc' := 52) (t := 62) dX11_gain_49 (by decide) rfl ⟨by first | omega | (split <;> omega), by first | omega | (split <;> omega)⟩ ⟨by first | omega | (split <;> omega), by first | omega | (split <;> omega)⟩ (fun (c6_4 : ((τ1.1 106 2) : Int) ≤ (bfS ρ 1 g)) => ?_) (fun (c6_4 : ¬ (((τ1.1 106 2) : Int) ≤ (bfS ρ 1 g))) => ?_)
      · refine e_iload_n (pc' := 63) dX11_gain_62 rfl rfl ?_
        refine e_istore_n (pc' := 64) (L' := [some (rv 88), some (iv g), some (iv w), some (iv (bfS ρ 1 g)), some (iv 2)]) dX11_gain_63 rfl (by decide) rfl ?_
        refine e_iinc (pc' := 67) (L' := [some (rv 88), some (iv g), some (iv w), some (iv (bfS ρ 1 g)), some (iv 3)]) dX11_gain_64 rfl rfl (by decide) rfl ?_
        refine e_goto (pc' := 35) dX11_gain_67 (by decide) ?_
        refine e_iload (pc' := 37) dX11_gain_35 rfl rfl ?_
        refine e_iconst (pc' := 38) dX11_gain_37 rfl ?_
        refine e_icmpI (pc' := 41) (t := 70) dX11_gain_38 (by decide) rfl ⟨by omega, by omega⟩ ⟨by omega, by omega⟩ (fun c8_5 => absurd (show 5 ≤ (3 : Int) from c8_5) (by decide)) (fun _ => ?_)
        refine e_aload_n (pc' := 42) dX11_gain_41 rfl rfl ?_
        refine e_getR (pc' := 45) dX11_gain_42 rfl f_11_70 h_88 rfl ?_
        refine e_iload (pc' := 47) dX11_gain_45 rfl rfl ?_
        refine e_iald (pc' := 48) (v := (τ1.1 106 3)) dX11_gain_47 rfl h_106 (by decide) (by omega) (by omega) rfl ?_
        refine e_iload_n (pc' := 49) dX11_gain_48 rfl rfl ?_
        refine e_icmpI (pc' := 52) (t := 62) dX11_gain_49 (by decide) rfl ⟨by first | omega | (split <;> omega), by first | omega | (split <;> omega)⟩ ⟨by first | omega | (split <;> omega), by first | omega | (split <;> omega)⟩ (fun (c8_6 : ((τ1.1 106 3) : Int) ≤ (bfS ρ 1 g)) => ?_) (fun (c8_6 : ¬ (((τ1.1 106 3) : Int) ≤ (bfS ρ 1 g))) => ?_)
        · refine e_iload_n (pc' := 63) dX11_gain_62 rfl rfl ?_
          refine e_istore_n (pc' := 64) (L' := [some (rv 88), some (iv g), some (iv w), some (iv (bfS ρ 1 g)), some (iv 3)]) dX11_gain_63 rfl (by decide) rfl ?_
          refine e_iinc (pc' := 67) (L' := [some (rv 88), some (iv g), some (iv w), some (iv (bfS ρ 1 g)), some (iv 4)]) dX11_gain_64 rfl rfl (by decide) rfl ?_
          refine e_goto (pc' := 35) dX11_gain_67 (by decide) ?_
          refine e_iload (pc' := 37) dX11_gain_35 rfl rfl ?_
          refine e_iconst (pc' := 38) dX11_gain_37 rfl ?_
          refine e_icmpI (pc' := 41) (t := 70) dX11_gain_38 (by decide) rfl ⟨by omega, by omega⟩ ⟨by omega, by omega⟩ (fun c10_7 => absurd (show 5 ≤ (4 : Int) from c10_7) (by decide)) (fun _ => ?_)
          refine e_aload_n (pc' := 42) dX11_gain_41 rfl rfl ?_
          refine e_getR (pc' := 45) dX11_gain_42 rfl f_11_70 h_88 rfl ?_
          refine e_iload (pc' := 47) dX11_gain_45 rfl rfl ?_
          refine e_iald (pc' := 48) (v := (τ1.1 106 4)) dX11_gain_47 rfl h_106 (by decide) (by omega) (by omega) rfl ?_
          refine e_iload_n (pc' := 49) dX11_gain_48 rfl rfl ?_
          refine e_icmpI (pc' := 52) (t := 62) dX11_gain_49 (by decide) rfl ⟨by first | omega | (split <;> omega), by first | omega | (split <;> omega)⟩ ⟨by first | omega | (split <;> omega), by first | omega | (split <;> omega)⟩ (fun (c10_8 : ((τ1.1 106 4) : Int) ≤ (bfS ρ 1 g)) => ?_) (fun (c10_8 : ¬ (((τ1.1 106 4) : Int) ≤ (bfS ρ 1 g))) => ?_)
          · refine e_iload_n (pc' := 63) dX11_gain_62 rfl rfl ?_
            refine e_istore_n (pc' := 64) (L' := [some (rv 88), some (iv g), some (iv w), some (iv (bfS ρ 1 g)), some (iv 4)]) dX11_gain_63 rfl (by decide) rfl ?_
            refine e_iinc (pc' := 67) (L' := [some (rv 88), some (iv g), some (iv w), some (iv (bfS ρ 1 g)), some (iv 5)]) dX11_gain_64 rfl rfl (by decide) rfl ?_
            refine e_goto (pc' := 35) dX11_gain_67 (by decide) ?_
            refine e_iload (pc' := 37) dX11_gain_35 rfl rfl ?_
            refine e_iconst (pc' := 38) dX11_gain_37 rfl ?_
            refine e_icmpI (pc' := 41) (t := 70) dX11_gain_38 (by decide) rfl ⟨by omega, by omega⟩ ⟨by omega, by omega⟩ (fun _ => ?_) (fun c12_9 => absurd (show 5 ≤ (5 : Int) by decide) c12_9)
            refine e_iload_n (pc' := 71) dX11_gain_70 rfl rfl ?_
            refine e_aload_n (pc' := 72) dX11_gain_71 rfl rfl ?_
            refine e_getR (pc' := 75) dX11_gain_72 rfl f_11_70 h_88 rfl ?_
            refine e_iconst (pc' := 76) dX11_gain_75 rfl ?_
            refine e_iald (pc' := 77) (v := (bfS ρ 1 g)) dX11_gain_76 rfl h_106 (by decide) (by omega) (by omega) b1 ?_
            refine e_isub (pc' := 78) dX11_gain_77 rfl ?_
            exact e_iret dX11_gain_78 rfl ⟨rfl, Nat.le_refl _⟩ ⟨_, rfl, by rw [if_pos (by omega)]; intro m' hm'; have e2 := Bh_m ⟨by omega, by omega⟩ (by omega) hbr.1 hB hm' (k := 2) (by decide); have e3 := Bh_m ⟨by omega, by omega⟩ (by omega) hbr.1 hB hm' (k := 3) (by decide); have e4 := Bh_m ⟨by omega, by omega⟩ (by omega) hbr.1 hB hm' (k := 4) (by decide); rw [e2, e3, e4]; omega, hF1, hK1, hM1⟩
          · refine e_aload_n (pc' := 53) dX11_gain_52 rfl rfl ?_
            refine e_getR (pc' := 56) dX11_gain_53 rfl f_11_70 h_88 rfl ?_
            refine e_iload (pc' := 58) dX11_gain_56 rfl rfl ?_
            refine e_iald (pc' := 59) (v := (τ1.1 106 4)) dX11_gain_58 rfl h_106 (by decide) (by omega) (by omega) rfl ?_
            refine e_goto (pc' := 63) dX11_gain_59 (by decide) ?_
            refine e_istore_n (pc' := 64) (L' := [some (rv 88), some (iv g), some (iv w), some (iv (τ1.1 106 4)), some (iv 4)]) dX11_gain_63 rfl (by decide) rfl ?_
            refine e_iinc (pc' := 67) (L' := [some (rv 88), some (iv g), some (iv w), some (iv (τ1.1 106 4)), some (iv 5)]) dX11_gain_64 rfl rfl (by decide) rfl ?_
            refine e_goto (pc' := 35) dX11_gain_67 (by decide) ?_
            refine e_iload (pc' := 37) dX11_gain_35 rfl rfl ?_
            refine e_iconst (pc' := 38) dX11_gain_37 rfl ?_
            refine e_icmpI (pc' := 41) (t := 70) dX11_gain_38 (by decide) rfl ⟨by omega, by omega⟩ ⟨by omega, by omega⟩ (fun _ => ?_) (fun c12_9 => absurd (show 5 ≤ (5 : Int) by decide) c12_9)
            refine e_iload_n (pc' := 71) dX11_gain_70 rfl rfl ?_
            refine e_aload_n (pc' := 72) dX11_gain_71 rfl rfl ?_
            refine e_getR (pc' := 75) dX11_gain_72 rfl f_11_70 h_88 rfl ?_
            refine e_iconst (pc' := 76) dX11_gain_75 rfl ?_
            refine e_iald (pc' := 77) (v := (bfS ρ 1 g)) dX11_gain_76 rfl h_106 (by decide) (by omega) (by omega) b1 ?_
            refine e_isub (pc' := 78) dX11_gain_77 rfl ?_
            exact e_iret dX11_gain_78 rfl ⟨rfl, Nat.le_refl _⟩ ⟨_, rfl, by rw [if_pos (by omega)]; intro m' hm'; have e2 := Bh_m ⟨by omega, by omega⟩ (by omega) hbr.1 hB hm' (k := 2) (by decide); have e3 := Bh_m ⟨by omega, by omega⟩ (by omega) hbr.1 hB hm' (k := 3) (by decide); have e4 := Bh_m ⟨by omega, by omega⟩ (by omega) hbr.1 hB hm' (k := 4) (by decide); rw [e2, e3, e4]; omega, hF1, hK1, hM1⟩
        · refine e_aload_n (pc' := 53) dX11_gain_52 rfl rfl ?_
          refine e_getR (pc' := 56) dX11_gain_53 rfl f_11_70 h_88 rfl ?_
          refine e_iload (pc' := 58) dX11_gain_56 rfl rfl ?_
          refine e_iald (pc' := 59) (v := (τ1.1 106 3)) dX11_gain_58 rfl h_106 (by decide) (by omega) (by omega) rfl ?_
          refine e_goto (pc' := 63) dX11_gain_59 (by decide) ?_
          refine e_istore_n (pc' := 64) (L' := [some (rv 88), some (iv g), some (iv w), some (iv (τ1.1 106 3)), some (iv 3)]) dX11_gain_63 rfl (by decide) rfl ?_
          refine e_iinc (pc' := 67) (L' := [some (rv 88), some (iv g), some (iv w), some (iv (τ1.1 106 3)), some (iv 4)]) dX11_gain_64 rfl rfl (by decide) rfl ?_
          refine e_goto (pc' := 35) dX11_gain_67 (by decide) ?_
          refine e_iload (pc' := 37) dX11_gain_35 rfl rfl ?_
          refine e_iconst (pc' := 38) dX11_gain_37 rfl ?_
          refine e_icmpI (pc' := 41) (t := 70) dX11_gain_38 (by decide) rfl ⟨by omega, by omega⟩ ⟨by omega, by omega⟩ (fun c10_7 => absurd (show 5 ≤ (4 : Int) from c10_7) (by decide)) (fun _ => ?_)
          refine e_aload_n (pc' := 42) dX11_gain_41 rfl rfl ?_
          refine e_getR (pc' := 45) dX11_gain_42 rfl f_11_70 h_88 rfl ?_
          refine e_iload (pc' := 47) dX11_gain_45 rfl rfl ?_
          refine e_iald (pc' := 48) (v := (τ1.1 106 4)) dX11_gain_47 rfl h_106 (by decide) (by omega) (by omega) rfl ?_
          refine e_iload_n (pc' := 49) dX11_gain_48 rfl rfl ?_
          refine e_icmpI (pc' := 52) (t := 62) dX11_gain_49 (by decide) rfl ⟨by first | omega | (split <;> omega), by first | omega | (split <;> omega)⟩ ⟨by first | omega | (split <;> omega), by first | omega | (split <;> omega)⟩ (fun (c10_8 : ((τ1.1 106 4) : Int) ≤ (τ1.1 106 3)) => ?_) (fun (c10_8 : ¬ (((τ1.1 106 4) : Int) ≤ (τ1.1 106 3))) => ?_)
          · refine e_iload_n (pc' := 63) dX11_gain_62 rfl rfl ?_
            refine e_istore_n (pc' := 64) (L' := [some (rv 88), some (iv g), some (iv w), some (iv (τ1.1 106 3)), some (iv 4)]) dX11_gain_63 rfl (by decide) rfl ?_
            refine e_iinc (pc' := 67) (L' := [some (rv 88), some (iv g), some (iv w), some (iv (τ1.1 106 3)), some (iv 5)]) dX11_gain_64 rfl rfl (by decide) rfl ?_
            refine e_goto (pc' := 35) dX11_gain_67 (by decide) ?_
            refine e_iload (pc' := 37) dX11_gain_35 rfl rfl ?_
            refine e_iconst (pc' := 38) dX11_gain_37 rfl ?_
            refine e_icmpI (pc' := 41) (t := 70) dX11_gain_38 (by decide) rfl ⟨by omega, by omega⟩ ⟨by omega, by omega⟩ (fun _ => ?_) (fun c12_9 => absurd (show 5 ≤ (5 : Int) by decide) c12_9)
            refine e_iload_n (pc' := 71) dX11_gain_70 rfl rfl ?_
            refine e_aload_n (pc' := 72) dX11_gain_71 rfl rfl ?_
            refine e_getR (pc' := 75) dX11_gain_72 rfl f_11_70 h_88 rfl ?_
            refine e_iconst (pc' := 76) dX11_gain_75 rfl ?_
            refine e_iald (pc' := 77) (v := (bfS ρ 1 g)) dX11_gain_76 rfl h_106 (by decide) (by omega) (by omega) b1 ?_
            refine e_isub (pc' := 78) dX11_gain_77 rfl ?_
            exact e_iret dX11_gain_78 rfl ⟨rfl, Nat.le_refl _⟩ ⟨_, rfl, by rw [if_pos (by omega)]; intro m' hm'; have e2 := Bh_m ⟨by omega, by omega⟩ (by omega) hbr.1 hB hm' (k := 2) (by decide); have e3 := Bh_m ⟨by omega, by omega⟩ (by omega) hbr.1 hB hm' (k := 3) (by decide); have e4 := Bh_m ⟨by omega, by omega⟩ (by omega) hbr.1 hB hm' (k := 4) (by decide); rw [e2, e3, e4]; omega, hF1, hK1, hM1⟩
          · refine e_aload_n (pc' := 53) dX11_gain_52 rfl rfl ?_
            refine e_getR (pc' := 56) dX11_gain_53 rfl f_11_70 h_88 rfl ?_
            refine e_iload (pc' := 58) dX11_gain_56 rfl rfl ?_
            refine e_iald (pc' := 59) (v := (τ1.1 106 4)) dX11_gain_58 rfl h_106 (by decide) (by omega) (by omega) rfl ?_
            refine e_goto (pc' := 63) dX11_gain_59 (by decide) ?_
            refine e_istore_n (pc' := 64) (L' := [some (rv 88), some (iv g), some (iv w), some (iv (τ1.1 106 4)), some (iv 4)]) dX11_gain_63 rfl (by decide) rfl ?_
            refine e_iinc (pc' := 67) (L' := [some (rv 88), some (iv g), some (iv w), some (iv (τ1.1 106 4)), some (iv 5)]) dX11_gain_64 rfl rfl (by decide) rfl ?_
            refine e_goto (pc' := 35) dX11_gain_67 (by decide) ?_
            refine e_iload (pc' := 37) dX11_gain_35 rfl rfl ?_
            refine e_iconst (pc' := 38) dX11_gain_37 rfl ?_
            refine e_icmpI (pc' := 41) (t := 70) dX11_gain_38 (by decide) rfl ⟨by omega, by omega⟩ ⟨by omega, by omega⟩ (fun _ => ?_) (fun c12_9 => absurd (show 5 ≤ (5 : Int) by decide) c12_9)
            refine e_iload_n (pc' := 71) dX11_gain_70 rfl rfl ?_
            refine e_aload_n (pc' := 72) dX11_gain_71 rfl rfl ?_
            refine e_getR (pc' := 75) dX11_gain_72 rfl f_11_70 h_88 rfl ?_
            refine e_iconst (pc' := 76) dX11_gain_75 rfl ?_
            refine e_iald (pc' := 77) (v := (bfS ρ 1 g)) dX11_gain_76 rfl h_106 (by decide) (by omega) (by omega) b1 ?_
            refine e_isub (pc' := 78) dX11_gain_77 rfl ?_
            exact e_iret dX11_gain_78 rfl ⟨rfl, Nat.le_refl _⟩ ⟨_, rfl, by rw [if_pos (by omega)]; intro m' hm'; have e2 := Bh_m ⟨by omega, by omega⟩ (by omega) hbr.1 hB hm' (k := 2) (by decide); have e3 := Bh_m ⟨by omega, by omega⟩ (by omega) hbr.1 hB hm' (k := 3) (by decide); have e4 := Bh_m ⟨by omega, by omega⟩ (by omega) hbr.1 hB hm' (k := 4) (by decide); rw [e2, e3, e4]; omega, hF1, hK1, hM1⟩
      · refine e_aload_n (pc' := 53) dX11_gain_52 rfl rfl ?_
        refine e_getR (pc' := 56) dX11_gain_53 rfl f_11_70 h_88 rfl ?_
        refine e_iload (pc' := 58) dX11_gain_56 rfl rfl ?_
        refine e_iald (pc' := 59) (v := (τ1.1 106 2)) dX11_gain_58 rfl h_106 (by decide) (by omega) (by omega) rfl ?_
        refine e_goto (pc' := 63) dX11_gain_59 (by decide) ?_
        refine e_istore_n (pc' := 64) (L' := [some (rv 88), some (iv g), some (iv w), some (iv (τ1.1 106 2)), some (iv 2)]) dX11_gain_63 rfl (by decide) rfl ?_
        refine e_iinc (pc' := 67) (L' := [some (rv 88), some (iv g), some (iv w), some (iv (τ1.1 106 2)), some (iv 3)]) dX11_gain_64 rfl rfl (by decide) rfl ?_
        refine e_goto (pc' := 35) dX11_gain_67 (by decide) ?_
        refine e_iload (pc' := 37) dX11_gain_35 rfl rfl ?_
        refine e_iconst (pc' := 38) dX11_gain_37 rfl ?_
        refine e_icmpI (pc' := 41) (t := 70) dX11_gain_38 (by decide) rfl ⟨by omega, by omega⟩ ⟨by omega, by omega⟩ (fun c8_5 => absurd (show 5 ≤ (3 : Int) from c8_5) (by decide)) (fun _ => ?_)
        refine e_aload_n (pc' := 42) dX11_gain_41 rfl rfl ?_
        refine e_getR (pc' := 45) dX11_gain_42 rfl f_11_70 h_88 rfl ?_
        refine e_iload (pc' := 47) dX11_gain_45 rfl rfl ?_
        refine e_iald (pc' := 48) (v := (τ1.1 106 3)) dX11_gain_47 rfl h_106 (by decide) (by omega) (by omega) rfl ?_
        refine e_iload_n (pc' := 49) dX11_gain_48 rfl rfl ?_
        refine e_icmpI (pc' := 52) (t := 62) dX11_gain_49 (by decide) rfl ⟨by first | omega | (split <;> omega), by first | omega | (split <;> omega)⟩ ⟨by first | omega | (split <;> omega), by first | omega | (split <;> omega)⟩ (fun (c8_6 : ((τ1.1 106 3) : Int) ≤ (τ1.1 106 2)) => ?_) (fun (c8_6 : ¬ (((τ1.1 106 3) : Int) ≤ (τ1.1 106 2))) => ?_)
        · refine e_iload_n (pc' := 63) dX11_gain_62 rfl rfl ?_
          refine e_istore_n (pc' := 64) (L' := [some (rv 88), some (iv g), some (iv w), some (iv (τ1.1 106 2)), some (iv 3)]) dX11_gain_63 rfl (by decide) rfl ?_
          refine e_iinc (pc' := 67) (L' := [some (rv 88), some (iv g), some (iv w), some (iv (τ1.1 106 2)), some (iv 4)]) dX11_gain_64 rfl rfl (by decide) rfl ?_
          refine e_goto (pc' := 35) dX11_gain_67 (by decide) ?_
          refine e_iload (pc' := 37) dX11_gain_35 rfl rfl ?_
          refine e_iconst (pc' := 38) dX11_gain_37 rfl ?_
          refine e_icmpI (pc' := 41) (t := 70) dX11_gain_38 (by decide) rfl ⟨by omega, by omega⟩ ⟨by omega, by omega⟩ (fun c10_7 => absurd (show 5 ≤ (4 : Int) from c10_7) (by decide)) (fun _ => ?_)
          refine e_aload_n (pc' := 42) dX11_gain_41 rfl rfl ?_
          refine e_getR (pc' := 45) dX11_gain_42 rfl f_11_70 h_88 rfl ?_
          refine e_iload (pc' := 47) dX11_gain_45 rfl rfl ?_
          refine e_iald (pc' := 48) (v := (τ1.1 106 4)) dX11_gain_47 rfl h_106 (by decide) (by omega) (by omega) rfl ?_
          refine e_iload_n (pc' := 49) dX11_gain_48 rfl rfl ?_
          refine e_icmpI (pc' := 52) (t := 62) dX11_gain_49 (by decide) rfl ⟨by first | omega | (split <;> omega), by first | omega | (split <;> omega)⟩ ⟨by first | omega | (split <;> omega), by first | omega | (split <;> omega)⟩ (fun (c10_8 : ((τ1.1 106 4) : Int) ≤ (τ1.1 106 2)) => ?_) (fun (c10_8 : ¬ (((τ1.1 106 4) : Int) ≤ (τ1.1 106 2))) => ?_)
          · refine e_iload_n (pc' := 63) dX11_gain_62 rfl rfl ?_
            refine e_istore_n (pc' := 64) (L' := [some (rv 88), some (iv g), some (iv w), some (iv (τ1.1 106 2)), some (iv 4)]) dX11_gain_63 rfl (by decide) rfl ?_
            refine e_iinc (pc' := 67) (L' := [some (rv 88), some (iv g), some (iv w), some (iv (τ1.1 106 2)), some (iv 5)]) dX11_gain_64 rfl rfl (by decide) rfl ?_
            refine e_goto (pc' := 35) dX11_gain_67 (by decide) ?_
            refine e_iload (pc' := 37) dX11_gain_35 rfl rfl ?_
            refine e_iconst (pc' := 38) dX11_gain_37 rfl ?_
            refine e_icmpI (pc' := 41) (t := 70) dX11_gain_38 (by decide) rfl ⟨by omega, by omega⟩ ⟨by omega, by omega⟩ (fun _ => ?_) (fun c12_9 => absurd (show 5 ≤ (5 : Int) by decide) c12_9)
            refine e_iload_n (pc' := 71) dX11_gain_70 rfl rfl ?_
            refine e_aload_n (pc' := 72) dX11_gain_71 rfl rfl ?_
            refine e_getR (pc' := 75) dX11_gain_72 rfl f_11_70 h_88 rfl ?_
            refine e_iconst (pc' := 76) dX11_gain_75 rfl ?_
            refine e_iald (pc' := 77) (v := (bfS ρ 1 g)) dX11_gain_76 rfl h_106 (by decide) (by omega) (by omega) b1 ?_
            refine e_isub (pc' := 78) dX11_gain_77 rfl ?_
            exact e_iret dX11_gain_78 rfl ⟨rfl, Nat.le_refl _⟩ ⟨_, rfl, by rw [if_pos (by omega)]; intro m' hm'; have e2 := Bh_m ⟨by omega, by omega⟩ (by omega) hbr.1 hB hm' (k := 2) (by decide); have e3 := Bh_m ⟨by omega, by omega⟩ (by omega) hbr.1 hB hm' (k := 3) (by decide); have e4 := Bh_m ⟨by omega, by omega⟩ (by omega) hbr.1 hB hm' (k := 4) (by decide); rw [e2, e3, e4]; omega, hF1, hK1, hM1⟩
          · refine e_aload_n (pc' := 53) dX11_gain_52 rfl rfl ?_
            refine e_getR (pc' := 56) dX11_gain_53 rfl f_11_70 h_88 rfl ?_
            refine e_iload (pc' := 58) dX11_gain_56 rfl rfl ?_
            refine e_iald (pc' := 59) (v := (τ1.1 106 4)) dX11_gain_58 rfl h_106 (by decide) (by omega) (by omega) rfl ?_
            refine e_goto (pc' := 63) dX11_gain_59 (by decide) ?_
            refine e_istore_n (pc' := 64) (L' := [some (rv 88), some (iv g), some (iv w), some (iv (τ1.1 106 4)), some (iv 4)]) dX11_gain_63 rfl (by decide) rfl ?_
            refine e_iinc (pc' := 67) (L' := [some (rv 88), some (iv g), some (iv w), some (iv (τ1.1 106 4)), some (iv 5)]) dX11_gain_64 rfl rfl (by decide) rfl ?_
            refine e_goto (pc' := 35) dX11_gain_67 (by decide) ?_
            refine e_iload (pc' := 37) dX11_gain_35 rfl rfl ?_
            refine e_iconst (pc' := 38) dX11_gain_37 rfl ?_
            refine e_icmpI (pc' := 41) (t := 70) dX11_gain_38 (by decide) rfl ⟨by omega, by omega⟩ ⟨by omega, by omega⟩ (fun _ => ?_) (fun c12_9 => absurd (show 5 ≤ (5 : Int) by decide) c12_9)
            refine e_iload_n (pc' := 71) dX11_gain_70 rfl rfl ?_
            refine e_aload_n (pc' := 72) dX11_gain_71 rfl rfl ?_
            refine e_getR (pc' := 75) dX11_gain_72 rfl f_11_70 h_88 rfl ?_
            refine e_iconst (pc' := 76) dX11_gain_75 rfl ?_
            refine e_iald (pc' := 77) (v := (bfS ρ 1 g)) dX11_gain_76 rfl h_106 (by decide) (by omega) (by omega) b1 ?_
            refine e_isub (pc' := 78) dX11_gain_77 rfl ?_
            exact e_iret dX11_gain_78 rfl ⟨rfl, Nat.le_refl _⟩ ⟨_, rfl, by rw [if_pos (by omega)]; intro m' hm'; have e2 := Bh_m ⟨by omega, by omega⟩ (by omega) hbr.1 hB hm' (k := 2) (by decide); have e3 := Bh_m ⟨by omega, by omega⟩ (by omega) hbr.1 hB hm' (k := 3) (by decide); have e4 := Bh_m ⟨by omega, by omega⟩ (by omega) hbr.1 hB hm' (k := 4) (by decide); rw [e2, e3, e4]; omega, hF1, hK1, hM1⟩
        · refine e_aload_n (pc' := 53) dX11_gain_52 rfl rfl ?_
          refine e_getR (pc' := 56) dX11_gain_53 rfl f_11_70 h_88 rfl ?_
          refine e_iload (pc' := 58) dX11_gain_56 rfl rfl ?_
          refine e_iald (pc' := 59) (v := (τ1.1 106 3)) dX11_gain_58 rfl h_106 (by decide) (by omega) (by omega) rfl ?_
          refine e_goto (pc' := 63) dX11_gain_59 (by decide) ?_
          refine e_istore_n (pc' := 64) (L' := [some (rv 88), some (iv g), some (iv w), some (iv (τ1.1 106 3)), some (iv 3)]) dX11_gain_63 rfl (by decide) rfl ?_
          refine e_iinc (pc' := 67) (L' := [some (rv 88), some (iv g), some (iv w), some (iv (τ1.1 106 3)), some (iv 4)]) dX11_gain_64 rfl rfl (by decide) rfl ?_
          refine e_goto (pc' := 35) dX11_gain_67 (by decide) ?_
          refine e_iload (pc' := 37) dX11_gain_35 rfl rfl ?_
          refine e_iconst (pc' := 38) dX11_gain_37 rfl ?_
          refine e_icmpI (pc' := 41) (t := 70) dX11_gain_38 (by decide) rfl ⟨by omega, by omega⟩ ⟨by omega, by omega⟩ (fun c10_7 => absurd (show 5 ≤ (4 : Int) from c10_7) (by decide)) (fun _ => ?_)
          refine e_aload_n (pc' := 42) dX11_gain_41 rfl rfl ?_
          refine e_getR (pc' := 45) dX11_gain_42 rfl f_11_70 h_88 rfl ?_
          refine e_iload (pc' := 47) dX11_gain_45 rfl rfl ?_
          refine e_iald (pc' := 48) (v := (τ1.1 106 4)) dX11_gain_47 rfl h_106 (by decide) (by omega) (by omega) rfl ?_
          refine e_iload_n (pc' := 49) dX11_gain_48 rfl rfl ?_
          refine e_icmpI (pc' := 52) (t := 62) dX11_gain_49 (by decide) rfl ⟨by first | omega | (split <;> omega), by first | omega | (split <;> omega)⟩ ⟨by first | omega | (split <;> omega), by first | omega | (split <;> omega)⟩ (fun (c10_8 : ((τ1.1 106 4) : Int) ≤ (τ1.1 106 3)) => ?_) (fun (c10_8 : ¬ (((τ1.1 106 4) : Int) ≤ (τ1.1 106 3))) => ?_)
          · refine e_iload_n (pc' := 63) dX11_gain_62 rfl rfl ?_
            refine e_istore_n (pc' := 64) (L' := [some (rv 88), some (iv g), some (iv w), some (iv (τ1.1 106 3)), some (iv 4)]) dX11_gain_63 rfl (by decide) rfl ?_
            refine e_iinc (pc' := 67) (L' := [some (rv 88), some (iv g), some (iv w), some (iv (τ1.1 106 3)), some (iv 5)]) dX11_gain_64 rfl rfl (by decide) rfl ?_
            refine e_goto (pc' := 35) dX11_gain_67 (by decide) ?_
            refine e_iload (pc' := 37) dX11_gain_35 rfl rfl ?_
            refine e_iconst (pc' := 38) dX11_gain_37 rfl ?_
            refine e_icmpI (pc' := 41) (t := 70) dX11_gain_38 (by decide) rfl ⟨by omega, by omega⟩ ⟨by omega, by omega⟩ (fun _ => ?_) (fun c12_9 => absurd (show 5 ≤ (5 : Int) by decide) c12_9)
            refine e_iload_n (pc' := 71) dX11_gain_70 rfl rfl ?_
            refine e_aload_n (pc' := 72) dX11_gain_71 rfl rfl ?_
            refine e_getR (pc' := 75) dX11_gain_72 rfl f_11_70 h_88 rfl ?_
            refine e_iconst (pc' := 76) dX11_gain_75 rfl ?_
            refine e_iald (pc' := 77) (v := (bfS ρ 1 g)) dX11_gain_76 rfl h_106 (by decide) (by omega) (by omega) b1 ?_
            refine e_isub (pc' := 78) dX11_gain_77 rfl ?_
            exact e_iret dX11_gain_78 rfl ⟨rfl, Nat.le_refl _⟩ ⟨_, rfl, by rw [if_pos (by omega)]; intro m' hm'; have e2 := Bh_m ⟨by omega, by omega⟩ (by omega) hbr.1 hB hm' (k := 2) (by decide); have e3 := Bh_m ⟨by omega, by omega⟩ (by omega) hbr.1 hB hm' (k := 3) (by decide); have e4 := Bh_m ⟨by omega, by omega⟩ (by omega) hbr.1 hB hm' (k := 4) (by decide); rw [e2, e3, e4]; omega, hF1, hK1, hM1⟩
          · refine e_aload_n (pc' := 53) dX11_gain_52 rfl rfl ?_
            refine e_getR (pc' := 56) dX11_gain_53 rfl f_11_70 h_88 rfl ?_
            refine e_iload (pc' := 58) dX11_gain_56 rfl rfl ?_
            refine e_iald (pc' := 59) (v := (τ1.1 106 4)) dX11_gain_58 rfl h_106 (by decide) (by omega) (by omega) rfl ?_
            refine e_goto (pc' := 63) dX11_gain_59 (by decide) ?_
            refine e_istore_n (pc' := 64) (L' := [some (rv 88), some (iv g), some (iv w), some (iv (τ1.1 106 4)), some (iv 4)]) dX11_gain_63 rfl (by decide) rfl ?_
            refine e_iinc (pc' := 67) (L' := [some (rv 88), some (iv g), some (iv w), some (iv (τ1.1 106 4)), some (iv 5)]) dX11_gain_64 rfl rfl (by decide) rfl ?_
            refine e_goto (pc' := 35) dX11_gain_67 (by decide) ?_
            refine e_iload (pc' := 37) dX11_gain_35 rfl rfl ?_
            refine e_iconst (pc' := 38) dX11_gain_37 rfl ?_
            refine e_icmpI (pc' := 41) (t := 70) dX11_gain_38 (by decide) rfl ⟨by omega, by omega⟩ ⟨by omega, by omega⟩ (fun _ => ?_) (fun c12_9 => absurd (show 5 ≤ (5 : Int) by decide) c12_9)
            refine e_iload_n (pc' := 71) dX11_gain_70 rfl rfl ?_
            refine e_aload_n (pc' := 72) dX11_gain_71 rfl rfl ?_
            refine e_getR (pc' := 75) dX11_gain_72 rfl f_11_70 h_88 rfl ?_
            refine e_iconst (pc' := 76) dX11_gain_75 rfl ?_
            refine e_iald (pc' := 77) (v := (bfS ρ 1 g)) dX11_gain_76 rfl h_106 (by decide) (by omega) (by omega) b1 ?_
            refine e_isub (pc' := 78) dX11_gain_77 rfl ?_
            exact e_iret dX11_gain_78 rfl ⟨rfl, Nat.le_refl _⟩ ⟨_, rfl, by rw [if_pos (by omega)]; intro m' hm'; have e2 := Bh_m ⟨by omega, by omega⟩ (by omega) hbr.1 hB hm' (k := 2) (by decide); have e3 := Bh_m ⟨by omega, by omega⟩ (by omega) hbr.1 hB hm' (k := 3) (by decide); have e4 := Bh_m ⟨by omega, by omega⟩ (by omega) hbr.1 hB hm' (k := 4) (by decide); rw [e2, e3, e4]; omega, hF1, hK1, hM1⟩
    · have c4_2n : ¬ (0 ≤ w ∧ w < (ρ.1 1 7)) := fun hpq_ => absurd (if_pos hpq_ : (if 0 ≤ w ∧ w < (ρ.1 1 7) then (1 : Int) else 0) = 1) (by have := c4_2; omega)
      refine e_bipush (pc' := 18) (z := (-2)) dX11_gain_16 rfl (by decide) ?_
      exact e_iret dX11_gain_18 rfl ⟨rfl, Nat.le_refl _⟩ ⟨_, rfl, by rw [if_neg (by omega)], Fr.rf, KA.rf, h⟩

set_option maxHeartbeats 4000000 in
set_option maxRecDepth 100000 in
theorem l_hand {X : AX} {d : Nat} {σ : SG} (g w bf : Int) (hb : 0 ≤ bf ∧ bf ≤ 1000000) (h1 : σ.1 106 1 = bf) (h2 : -1 ≤ σ.1 106 2 ∧ σ.1 106 2 ≤ 1000000) (h3 : -1 ≤ σ.1 106 3 ∧ σ.1 106 3 ≤ 1000000) (h4 : -1 ≤ σ.1 106 4 ∧ σ.1 106 4 ≤ 1000000) : ∀ (k : Nat) (c : Int) (x4 x5 : Option AV), 0 ≤ c → c ≤ 1000 → 1000 - c < k → (∀ c', 0 ≤ c' → c' < c → ¬ (σ.1 106 2 - c' * 1 ≤ bf ∧ σ.1 106 3 - c' * 2 ≤ bf ∧ σ.1 106 4 - c' * 3 ≤ bf)) → Ev X 0 0 d mX11_hand 27 [some (rv 88), some (iv g), some (iv w), some (iv c), x4, x5] [] σ (QI (fun r σ' => σ' = σ ∧ ((0 ≤ r ∧ r ≤ 999 ∧ (σ.1 106 2 - r * 1 ≤ bf ∧ σ.1 106 3 - r * 2 ≤ bf ∧ σ.1 106 4 - r * 3 ≤ bf) ∧ ∀ c, 0 ≤ c → c < r → ¬ (σ.1 106 2 - c * 1 ≤ bf ∧ σ.1 106 3 - c * 2 ≤ bf ∧ σ.1 106 4 - c * 3 ≤ bf)) ∨ (r = -1 ∧ ∀ c, 0 ≤ c → c ≤ 999 → ¬ (σ.1 106 2 - c * 1 ≤ bf ∧ σ.1 106 3 - c * 2 ≤ bf ∧ σ.1 106 4 - c * 3 ≤ bf))))) := by
  intro k
  induction k with
  | zero => intros; omega
  | succ k ih =>
  intro c x4 x5 hc0 hc1 hck hn
  refine e_iload_n (pc' := 28) dX11_hand_27 rfl rfl ?_
  refine e_sipush (pc' := 31) (z := 999) dX11_hand_28 rfl (by decide) ?_
  refine e_icmpI (pc' := 34) (t := 100) dX11_hand_31 (by decide) rfl ⟨by omega, by omega⟩ ⟨by omega, by omega⟩ (fun (c2_1 : 999 < (c : Int)) => ?_) (fun (c2_1 : ¬ (999 < (c : Int))) => ?_)
  · refine e_iconst (pc' := 101) dX11_hand_100 rfl ?_
    exact e_iret dX11_hand_101 rfl ⟨rfl, Nat.le_refl _⟩ ⟨_, rfl, rfl, Or.inr ⟨rfl, (fun c' a b => hn c' a (by omega))⟩⟩
  · refine e_iconst (pc' := 35) dX11_hand_34 rfl ?_
    refine e_istore (pc' := 37) (L' := [some (rv 88), some (iv g), some (iv w), some (iv c), some (iv 1), x5]) dX11_hand_35 rfl (by decide) rfl ?_
    refine e_iconst (pc' := 38) dX11_hand_37 rfl ?_
    refine e_istore (pc' := 40) (L' := [some (rv 88), some (iv g), some (iv w), some (iv c), some (iv 1), some (iv 2)]) dX11_hand_38 rfl (by decide) rfl ?_
    refine e_iload (pc' := 42) dX11_hand_40 rfl rfl ?_
    refine e_iconst (pc' := 43) dX11_hand_42 rfl ?_
    refine e_icmpI (pc' := 46) (t := 87) dX11_hand_43 (by decide) rfl ⟨by omega, by omega⟩ ⟨by omega, by omega⟩ (fun c4_2 => absurd (show 5 ≤ (2 : Int) from c4_2) (by decide)) (fun _ => ?_)
    refine e_iload (pc' := 48) dX11_hand_46 rfl rfl ?_
    refine e_ifI (pc' := 51) (t := 78) dX11_hand_48 (by decide) rfl ⟨by omega, by omega⟩ (fun c4_3 => absurd (show (1 : Int) = 0 from c4_3) (by decide)) (fun _ => ?_)
    refine e_aload_n (pc' := 52) dX11_hand_51 rfl rfl ?_
    refine e_getR (pc' := 55) dX11_hand_52 rfl f_11_70 h_88 rfl ?_
    refine e_iload (pc' := 57) dX11_hand_55 rfl rfl ?_
    refine e_iald (pc' := 58) (v := (σ.1 106 2)) dX11_hand_57 rfl h_106 (by decide) (by omega) (by omega) rfl ?_
    refine e_iload_n (pc' := 59) dX11_hand_58 rfl rfl ?_
    refine e_iload (pc' := 61) dX11_hand_59 rfl rfl ?_
    refine e_iconst (pc' := 62) dX11_hand_61 rfl ?_
    refine e_isub (pc' := 63) dX11_hand_62 rfl ?_
    refine e_imul (pc' := 64) dX11_hand_63 rfl ?_
    refine e_isub (pc' := 65) dX11_hand_64 rfl ?_
    refine e_aload_n (pc' := 66) dX11_hand_65 rfl rfl ?_
    refine e_getR (pc' := 69) dX11_hand_66 rfl f_11_70 h_88 rfl ?_
    refine e_iconst (pc' := 70) dX11_hand_69 rfl ?_
    refine e_iald (pc' := 71) (v := bf) dX11_hand_70 rfl h_106 (by decide) (by omega) (by omega) h1 ?_
    refine e_icmpI (pc' := 74) (t := 78) dX11_hand_71 (by decide) rfl ⟨by omega, by omega⟩ ⟨by omega, by omega⟩ (fun (c4_4 : bf < (((σ.1 106 2) - (c * (2 - 1))) : Int)) => ?_) (fun (c4_4 : ¬ (bf < (((σ.1 106 2) - (c * (2 - 1))) : Int))) => ?_)
    · refine e_iconst (pc' := 79) dX11_hand_78 rfl ?_
      refine e_istore (pc' := 81) (L' := [some (rv 88), some (iv g), some (iv w), some (iv c), some (iv 0), some (iv 2)]) dX11_hand_79 rfl (by decide) rfl ?_
      refine e_iinc (pc' := 84) (L' := [some (rv 88), some (iv g), some (iv w), some (iv c), some (iv 0), some (iv 3)]) dX11_hand_81 rfl rfl (by decide) rfl ?_
      refine e_goto (pc' := 40) dX11_hand_84 (by decide) ?_
      refine e_iload (pc' := 42) dX11_hand_40 rfl rfl ?_
      refine e_iconst (pc' := 43) dX11_hand_42 rfl ?_
      refine e_icmpI (pc' := 46) (t := 87) dX11_hand_43 (by decide) rfl ⟨by omega, by omega⟩ ⟨by omega, by omega⟩ (fun c6_5 => absurd (show 5 ≤ (3 : Int) from c6_5) (by decide)) (fun _ => ?_)
      refine e_iload (pc' := 48) dX11_hand_46 rfl rfl ?_
      refine e_ifI (pc' := 51) (t := 78) dX11_hand_48 (by decide) rfl ⟨by omega, by omega⟩ (fun _ => ?_) (fun c6_6 => absurd (show (0 : Int) = 0 by decide) c6_6)
      refine e_iconst (pc' := 79) dX11_hand_78 rfl ?_
      refine e_istore (pc' := 81) (L' := [some (rv 88), some (iv g), some (iv w), some (iv c), some (iv 0), some (iv 3)]) dX11_hand_79 rfl (by decide) rfl ?_
      refine e_iinc (pc' := 84) (L' := [some (rv 88), some (iv g), some (iv w), some (iv c), some (iv 0), some (iv 4)]) dX11_hand_81 rfl rfl (by decide) rfl ?_
      refine e_goto (pc' := 40) dX11_hand_84 (by decide) ?_
      refine e_iload (pc' := 42) dX11_hand_40 rfl rfl ?_
      refine e_iconst (pc' := 43) dX11_hand_42 rfl ?_
      refine e_icmpI (pc' := 46) (t := 87) dX11_hand_43 (by decide) rfl ⟨by omega, by omega⟩ ⟨by omega, by omega⟩ (fun c6_7 => absurd (show 5 ≤ (4 : Int) from c6_7) (by decide)) (fun _ => ?_)
      refine e_iload (pc' := 48) dX11_hand_46 rfl rfl ?_
      refine e_ifI (pc' := 51) (t := 78) dX11_hand_48 (by decide) rfl ⟨by omega, by omega⟩ (fun _ => ?_) (fun c6_8 => absurd (show (0 : Int) = 0 by decide) c6_8)
      refine e_iconst (pc' := 79) dX11_hand_78 rfl ?_
      refine e_istore (pc' := 81) (L' := [some (rv 88), some (iv g), some (iv w), some (iv c), some (iv 0), some (iv 4)]) dX11_hand_79 rfl (by decide) rfl ?_
      refine e_iinc (pc' := 84) (L' := [some (rv 88), some (iv g), some (iv w), some (iv c), some (iv 0), some (iv 5)]) dX11_hand_81 rfl rfl (by decide) rfl ?_
      refine e_goto (pc' := 40) dX11_hand_84 (by decide) ?_
      refine e_iload (pc' := 42) dX11_hand_40 rfl rfl ?_
      refine e_iconst (pc' := 43) dX11_hand_42 rfl ?_
      refine e_icmpI (pc' := 46) (t := 87) dX11_hand_43 (by decide) rfl ⟨by omega, by omega⟩ ⟨by omega, by omega⟩ (fun _ => ?_) (fun c6_9 => absurd (show 5 ≤ (5 : Int) by decide) c6_9)
      refine e_iload (pc' := 89) dX11_hand_87 rfl rfl ?_
      refine e_ifI (pc' := 92) (t := 94) dX11_hand_89 (by decide) rfl ⟨by omega, by omega⟩ (fun _ => ?_) (fun c6_10 => absurd (show (0 : Int) = 0 by decide) c6_10)
      refine e_iinc (pc' := 97) (L' := [some (rv 88), some (iv g), some (iv w), some (iv (c + 1)), some (iv 0), some (iv 5)]) dX11_hand_94 rfl rfl (by decide) rfl ?_
      refine e_goto (pc' := 27) dX11_hand_97 (by decide) ?_
      refine ih (c + 1) _ _ (by omega) (by omega) (by omega) (fun c' a b => ?_)
      by_cases hc : c' = c
      · rw [hc]; omega
      · exact hn c' a (by omega)
    · refine e_iconst (pc' := 75) dX11_hand_74 rfl ?_
      refine e_goto (pc' := 79) dX11_hand_75 (by decide) ?_
      refine e_istore (pc' := 81) (L' := [some (rv 88), some (iv g), some (iv w), some (iv c), some (iv 1), some (iv 2)]) dX11_hand_79 rfl (by decide) rfl ?_
      refine e_iinc (pc' := 84) (L' := [some (rv 88), some (iv g), some (iv w), some (iv c), some (iv 1), some (iv 3)]) dX11_hand_81 rfl rfl (by decide) rfl ?_
      refine e_goto (pc' := 40) dX11_hand_84 (by decide) ?_
      refine e_iload (pc' := 42) dX11_hand_40 rfl rfl ?_
      refine e_iconst (pc' := 43) dX11_hand_42 rfl ?_
      refine e_icmpI (pc' := 46) (t := 87) dX11_hand_43 (by decide) rfl ⟨by omega, by omega⟩ ⟨by omega, by omega⟩ (fun c6_5 => absurd (show 5 ≤ (3 : Int) from c6_5) (by decide)) (fun _ => ?_)
      refine e_iload (pc' := 48) dX11_hand_46 rfl rfl ?_
      refine e_ifI (pc' := 51) (t := 78) dX11_hand_48 (by decide) rfl ⟨by omega, by omega⟩ (fun c6_6 => absurd (show (1 : Int) = 0 from c6_6) (by decide)) (fun _ => ?_)
      refine e_aload_n (pc' := 52) dX11_hand_51 rfl rfl ?_
      refine e_getR (pc' := 55) dX11_hand_52 rfl f_11_70 h_88 rfl ?_
      refine e_iload (pc' := 57) dX11_hand_55 rfl rfl ?_
      refine e_iald (pc' := 58) (v := (σ.1 106 3)) dX11_hand_57 rfl h_106 (by decide) (by omega) (by omega) rfl ?_
      refine e_iload_n (pc' := 59) dX11_hand_58 rfl rfl ?_
      refine e_iload (pc' := 61) dX11_hand_59 rfl rfl ?_
      refine e_iconst (pc' := 62) dX11_hand_61 rfl ?_
      refine e_isub (pc' := 63) dX11_hand_62 rfl ?_
      refine e_imul (pc' := 64) dX11_hand_63 rfl ?_
      refine e_isub (pc' := 65) dX11_hand_64 rfl ?_
      refine e_aload_n (pc' := 66) dX11_hand_65 rfl rfl ?_
      refine e_getR (pc' := 69) dX11_hand_66 rfl f_11_70 h_88 rfl ?_
      refine e_iconst (pc' := 70) dX11_hand_69 rfl ?_
      refine e_iald (pc' := 71) (v := bf) dX11_hand_70 rfl h_106 (by decide) (by omega) (by omega) h1 ?_
      refine e_icmpI (pc' := 74) (t := 78) dX11_hand_71 (by decide) rfl ⟨by omega, by omega⟩ ⟨by omega, by omega⟩ (fun (c6_7 : bf < (((σ.1 106 3) - (c * (3 - 1))) : Int)) => ?_) (fun (c6_7 : ¬ (bf < (((σ.1 106 3) - (c * (3 - 1))) : Int))) => ?_)
      · refine e_iconst (pc' := 79) dX11_hand_78 rfl ?_
        refine e_istore (pc' := 81) (L' := [some (rv 88), some (iv g), some (iv w), some (iv c), some (iv 0), some (iv 3)]) dX11_hand_79 rfl (by decide) rfl ?_
        refine e_iinc (pc' := 84) (L' := [some (rv 88), some (iv g), some (iv w), some (iv c), some (iv 0), some (iv 4)]) dX11_hand_81 rfl rfl (by decide) rfl ?_
        refine e_goto (pc' := 40) dX11_hand_84 (by decide) ?_
        refine e_iload (pc' := 42) dX11_hand_40 rfl rfl ?_
        refine e_iconst (pc' := 43) dX11_hand_42 rfl ?_
        refine e_icmpI (pc' := 46) (t := 87) dX11_hand_43 (by decide) rfl ⟨by omega, by omega⟩ ⟨by omega, by omega⟩ (fun c8_8 => absurd (show 5 ≤ (4 : Int) from c8_8) (by decide)) (fun _ => ?_)
        refine e_iload (pc' := 48) dX11_hand_46 rfl rfl ?_
        refine e_ifI (pc' := 51) (t := 78) dX11_hand_48 (by decide) rfl ⟨by omega, by omega⟩ (fun _ => ?_) (fun c8_9 => absurd (show (0 : Int) = 0 by decide) c8_9)
        refine e_iconst (pc' := 79) dX11_hand_78 rfl ?_
        refine e_istore (pc' := 81) (L' := [some (rv 88), some (iv g), some (iv w), some (iv c), some (iv 0), some (iv 4)]) dX11_hand_79 rfl (by decide) rfl ?_
        refine e_iinc (pc' := 84) (L' := [some (rv 88), some (iv g), some (iv w), some (iv c), some (iv 0), some (iv 5)]) dX11_hand_81 rfl rfl (by decide) rfl ?_
        refine e_goto (pc' := 40) dX11_hand_84 (by decide) ?_
        refine e_iload (pc' := 42) dX11_hand_40 rfl rfl ?_
        refine e_iconst (pc' := 43) dX11_hand_42 rfl ?_
        refine e_icmpI (pc' := 46) (t := 87) dX11_hand_43 (by decide) rfl ⟨by omega, by omega⟩ ⟨by omega, by omega⟩ (fun _ => ?_) (fun c8_10 => absurd (show 5 ≤ (5 : Int) by decide) c8_10)
        refine e_iload (pc' := 89) dX11_hand_87 rfl rfl ?_
        refine e_ifI (pc' := 92) (t := 94) dX11_hand_89 (by decide) rfl ⟨by omega, by omega⟩ (fun _ => ?_) (fun c8_11 => absurd (show (0 : Int) = 0 by decide) c8_11)
        refine e_iinc (pc' := 97) (L' := [some (rv 88), some (iv g), some (iv w), some (iv (c + 1)), some (iv 0), some (iv 5)]) dX11_hand_94 rfl rfl (by decide) rfl ?_
        refine e_goto (pc' := 27) dX11_hand_97 (by decide) ?_
        refine ih (c + 1) _ _ (by omega) (by omega) (by omega) (fun c' a b => ?_)
        by_cases hc : c' = c
        · rw [hc]; omega
        · exact hn c' a (by omega)
      · refine e_iconst (pc' := 75) dX11_hand_74 rfl ?_
        refine e_goto (pc' := 79) dX11_hand_75 (by decide) ?_
        refine e_istore (pc' := 81) (L' := [some (rv 88), some (iv g), some (iv w), some (iv c), some (iv 1), some (iv 3)]) dX11_hand_79 rfl (by decide) rfl ?_
        refine e_iinc (pc' := 84) (L' := [some (rv 88), some (iv g), some (iv w), some (iv c), some (iv 1), some (iv 4)]) dX11_hand_81 rfl rfl (by decide) rfl ?_
        refine e_goto (pc' := 40) dX11_hand_84 (by decide) ?_
        refine e_iload (pc' := 42) dX11_hand_40 rfl rfl ?_
        refine e_iconst (pc' := 43) dX11_hand_42 rfl ?_
        refine e_icmpI (pc' := 46) (t := 87) dX11_hand_43 (by decide) rfl ⟨by omega, by omega⟩ ⟨by omega, by omega⟩ (fun c8_8 => absurd (show 5 ≤ (4 : Int) from c8_8) (by decide)) (fun _ => ?_)
        refine e_iload (pc' := 48) dX11_hand_46 rfl rfl ?_
        refine e_ifI (pc' := 51) (t := 78) dX11_hand_48 (by decide) rfl ⟨by omega, by omega⟩ (fun c8_9 => absurd (show (1 : Int) = 0 from c8_9) (by decide)) (fun _ => ?_)
        refine e_aload_n (pc' := 52) dX11_hand_51 rfl rfl ?_
        refine e_getR (pc' := 55) dX11_hand_52 rfl f_11_70 h_88 rfl ?_
        refine e_iload (pc' := 57) dX11_hand_55 rfl rfl ?_
        refine e_iald (pc' := 58) (v := (σ.1 106 4)) dX11_hand_57 rfl h_106 (by decide) (by omega) (by omega) rfl ?_
        refine e_iload_n (pc' := 59) dX11_hand_58 rfl rfl ?_
        refine e_iload (pc' := 61) dX11_hand_59 rfl rfl ?_
        refine e_iconst (pc' := 62) dX11_hand_61 rfl ?_
        refine e_isub (pc' := 63) dX11_hand_62 rfl ?_
        refine e_imul (pc' := 64) dX11_hand_63 rfl ?_
        refine e_isub (pc' := 65) dX11_hand_64 rfl ?_
        refine e_aload_n (pc' := 66) dX11_hand_65 rfl rfl ?_
        refine e_getR (pc' := 69) dX11_hand_66 rfl f_11_70 h_88 rfl ?_
        refine e_iconst (pc' := 70) dX11_hand_69 rfl ?_
        refine e_iald (pc' := 71) (v := bf) dX11_hand_70 rfl h_106 (by decide) (by omega) (by omega) h1 ?_
        refine e_icmpI (pc' := 74) (t := 78) dX11_hand_71 (by decide) rfl ⟨by omega, by omega⟩ ⟨by omega, by omega⟩ (fun (c8_10 : bf < (((σ.1 106 4) - (c * (4 - 1))) : Int)) => ?_) (fun (c8_10 : ¬ (bf < (((σ.1 106 4) - (c * (4 - 1))) : Int))) => ?_)
        · refine e_iconst (pc' := 79) dX11_hand_78 rfl ?_
          refine e_istore (pc' := 81) (L' := [some (rv 88), some (iv g), some (iv w), some (iv c), some (iv 0), some (iv 4)]) dX11_hand_79 rfl (by decide) rfl ?_
          refine e_iinc (pc' := 84) (L' := [some (rv 88), some (iv g), some (iv w), some (iv c), some (iv 0), some (iv 5)]) dX11_hand_81 rfl rfl (by decide) rfl ?_
          refine e_goto (pc' := 40) dX11_hand_84 (by decide) ?_
          refine e_iload (pc' := 42) dX11_hand_40 rfl rfl ?_
          refine e_iconst (pc' := 43) dX11_hand_42 rfl ?_
          refine e_icmpI (pc' := 46) (t := 87) dX11_hand_43 (by decide) rfl ⟨by omega, by omega⟩ ⟨by omega, by omega⟩ (fun _ => ?_) (fun c10_11 => absurd (show 5 ≤ (5 : Int) by decide) c10_11)
          refine e_iload (pc' := 89) dX11_hand_87 rfl rfl ?_
          refine e_ifI (pc' := 92) (t := 94) dX11_hand_89 (by decide) rfl ⟨by omega, by omega⟩ (fun _ => ?_) (fun c10_12 => absurd (show (0 : Int) = 0 by decide) c10_12)
          refine e_iinc (pc' := 97) (L' := [some (rv 88), some (iv g), some (iv w), some (iv (c + 1)), some (iv 0), some (iv 5)]) dX11_hand_94 rfl rfl (by decide) rfl ?_
          refine e_goto (pc' := 27) dX11_hand_97 (by decide) ?_
          refine ih (c + 1) _ _ (by omega) (by omega) (by omega) (fun c' a b => ?_)
          by_cases hc : c' = c
          · rw [hc]; omega
          · exact hn c' a (by omega)
        · refine e_iconst (pc' := 75) dX11_hand_74 rfl ?_
          refine e_goto (pc' := 79) dX11_hand_75 (by decide) ?_
          refine e_istore (pc' := 81) (L' := [some (rv 88), some (iv g), some (iv w), some (iv c), some (iv 1), some (iv 4)]) dX11_hand_79 rfl (by decide) rfl ?_
          refine e_iinc (pc' := 84) (L' := [some (rv 88), some (iv g), some (iv w), some (iv c), some (iv 1), some (iv 5)]) dX11_hand_81 rfl rfl (by decide) rfl ?_
          refine e_goto (pc' := 40) dX11_hand_84 (by decide) ?_
          refine e_iload (pc' := 42) dX11_hand_40 rfl rfl ?_
          refine e_iconst (pc' := 43) dX11_hand_42 rfl ?_
          refine e_icmpI (pc' := 46) (t := 87) dX11_hand_43 (by decide) rfl ⟨by omega, by omega⟩ ⟨by omega, by omega⟩ (fun _ => ?_) (fun c10_11 => absurd (show 5 ≤ (5 : Int) by decide) c10_11)
          refine e_iload (pc' := 89) dX11_hand_87 rfl rfl ?_
          refine e_ifI (pc' := 92) (t := 94) dX11_hand_89 (by decide) rfl ⟨by omega, by omega⟩ (fun c10_12 => absurd (show (1 : Int) = 0 from c10_12) (by decide)) (fun _ => ?_)
          refine e_iload_n (pc' := 93) dX11_hand_92 rfl rfl ?_
          exact e_iret dX11_hand_93 rfl ⟨rfl, Nat.le_refl _⟩ ⟨_, rfl, rfl, Or.inl ⟨by omega, by omega, by omega, hn⟩⟩

set_option maxHeartbeats 4000000 in
set_option maxRecDepth 100000 in
theorem s_m_hand {X : AX} {d : Nat} {σ ρ : SG} (h : MdI σ ρ 1) (hR : MrR (σ.1 89) ρ 1) (hpl0 : σ.1 88 18 = 0) (g w : Int) (hg : rg g) (hw : rg w) : Ev X 0 0 (d + 8) mX11_hand 0 [some (rv 88), some (iv g), some (iv w), none, none, none] [] σ (QI (fun r σ' => (if (0 ≤ g ∧ g < (ρ.1 1 6)) ∧ (0 ≤ w ∧ w < (ρ.1 1 7)) then (∀ m' : Int → Int, PtI (ptM ρ g w) (ρ.1 6 (g * 3 + w)) m' (fun _ _ _ => True) → r = (if 999 < max (max (max 0 (m' 2)) ((m' 3 + 1) / 2)) ((m' 4 + 2) / 3) then -1 else max (max (max 0 (m' 2)) ((m' 3 + 1) / 2)) ((m' 4 + 2) / 3))) else r = -2) ∧ Fr [88, 92, 93, 94, 95, 96, 97, 98, 99, 100, 106] σ σ' ∧ KA σ σ' ∧ MdI σ' ρ 1)) := by
  have ho := h.1
  have hX := h.2.1
  have hG := ho.1
  have hW := ho.2.1
  obtain ⟨hg1, hg2⟩ := hg
  obtain ⟨hw1, hw2⟩ := hw
  refine e_aload_n (pc' := 1) dX11_hand_0 rfl rfl ?_
  refine e_iload_n (pc' := 2) dX11_hand_1 rfl rfl ?_
  refine e_cv1i (pc' := 5) dX11_hand_2 rfl k_11_91 h_88 rfl (Nat.le_of_ble_eq_true rfl) rfl rfl ⟨rfl, rfl⟩ ⟨Nat.zero_le _, Nat.zero_le _⟩ (s_m_isGiver g ⟨by omega, by omega⟩ (by rw [h.2.2.1.1.1]; exact hG)) ?_
  intro r σ' hr; rw [hr.1, hr.2, h.2.2.1.1.1]; clear hr
  refine e_ifI (pc' := 8) (t := 16) dX11_hand_5 (by decide) rfl ⟨by first | omega | (split <;> omega), by first | omega | (split <;> omega)⟩ (fun (c2_1 : ((if 0 ≤ g ∧ g < (ρ.1 1 6) then 1 else 0) : Int) = 0) => ?_) (fun (c2_1 : ¬ (((if 0 ≤ g ∧ g < (ρ.1 1 6) then 1 else 0) : Int) = 0)) => ?_)
  · have c2_1n : ¬ (0 ≤ g ∧ g < (ρ.1 1 6)) := fun hpq_ => absurd (if_pos hpq_ : (if 0 ≤ g ∧ g < (ρ.1 1 6) then (1 : Int) else 0) = 1) (by have := c2_1; omega)
    refine e_bipush (pc' := 18) (z := (-2)) dX11_hand_16 rfl (by decide) ?_
    exact e_iret dX11_hand_18 rfl ⟨rfl, Nat.le_refl _⟩ ⟨_, rfl, by rw [if_neg (by omega)], Fr.rf, KA.rf, h⟩
  · have c2_1n : 0 ≤ g ∧ g < (ρ.1 1 6) := Classical.byContradiction (fun hpq_ => absurd (if_neg hpq_ : (if 0 ≤ g ∧ g < (ρ.1 1 6) then (1 : Int) else 0) = 0) (by have := c2_1; omega))
    refine e_aload_n (pc' := 9) dX11_hand_8 rfl rfl ?_
    refine e_iload_n (pc' := 10) dX11_hand_9 rfl rfl ?_
    refine e_cv1i (pc' := 13) dX11_hand_10 rfl k_11_95 h_88 rfl (Nat.le_of_ble_eq_true rfl) rfl rfl ⟨rfl, rfl⟩ ⟨Nat.zero_le _, Nat.zero_le _⟩ (s_m_isWork w ⟨by omega, by omega⟩ (by rw [h.2.2.1.1.2.1]; exact hW)) ?_
    intro r σ' hr; rw [hr.1, hr.2, h.2.2.1.1.2.1]; clear hr
    refine e_ifI (pc' := 16) (t := 19) dX11_hand_13 (by decide) rfl ⟨by first | omega | (split <;> omega), by first | omega | (split <;> omega)⟩ (fun (c4_2 : ((if 0 ≤ w ∧ w < (ρ.1 1 7) then 1 else 0) : Int) ≠ 0) => ?_) (fun (c4_2 : ¬ (((if 0 ≤ w ∧ w < (ρ.1 1 7) then 1 else 0) : Int) ≠ 0)) => ?_)
    · have c4_2n : 0 ≤ w ∧ w < (ρ.1 1 7) := Classical.byContradiction (fun hpq_ => absurd (if_neg hpq_ : (if 0 ≤ w ∧ w < (ρ.1 1 7) then (1 : Int) else 0) = 0) (by have := c4_2; omega))
      refine e_aload_n (pc' := 20) dX11_hand_19 rfl rfl ?_
      refine e_iload_n (pc' := 21) dX11_hand_20 rfl rfl ?_
      refine e_iload_n (pc' := 22) dX11_hand_21 rfl rfl ?_
      refine e_cv2v (pc' := 25) dX11_hand_22 rfl k_11_242 h_88 rfl (Nat.le_of_ble_eq_true rfl) rfl rfl ⟨rfl, rfl⟩ ⟨Nat.zero_le _, Nat.zero_le _⟩ (s_m_findHands h hR hpl0 g w ⟨by omega, by omega⟩ ⟨by omega, by omega⟩) ?_
      rintro τ1 ⟨hB, hF1, hK1, hM1⟩
      have hbr := (ch_ok ho hX (g := g) ⟨by omega, by omega⟩).2.2
      have hcor : 0 ≤ (ρ.1 6 (g * 3 + w)) ∧ (ρ.1 6 (g * 3 + w)) ≤ 12 := ho.2.2.2.2.2.2.1 (g * 3 + w) (by omega) (by omega)
      have b1 := Bh_1 ⟨by omega, by omega⟩ (by omega) hbr.1 hcor.1 hB
      have b2 := (hB 2 (by decide) (by decide)).1
      have b3 := (hB 3 (by decide) (by decide)).1
      have b4 := (hB 4 (by decide) (by decide)).1
      refine e_iconst (pc' := 26) dX11_hand_25 rfl ?_
      refine e_istore_n (pc' := 27) (L' := [some (rv 88), some (iv g), some (iv w), some (iv 0), none, none]) dX11_hand_26 rfl (by decide) rfl ?_
      refine (l_hand g w (bfS ρ 1 g) hbr b1 b2 b3 b4 1001 0 _ _ (by decide) (by decide) (by decide) (fun c' a c => absurd c (by omega))).imp ?_
      rintro v σ' ⟨r, rfl, hs, hor⟩
      rw [hs]
      refine ⟨r, rfl, ?_, hF1, hK1, hM1⟩
      rw [if_pos (by omega)]
      intro m' hm'
      have e2 := Bh_m ⟨by omega, by omega⟩ (by omega) hbr.1 hB hm' (k := 2) (by decide)
      have e3 := Bh_m ⟨by omega, by omega⟩ (by omega) hbr.1 hB hm' (k := 3) (by decide)
      have e4 := Bh_m ⟨by omega, by omega⟩ (by omega) hbr.1 hB hm' (k := 4) (by decide)
      obtain ⟨C, hC⟩ : ∃ C, C = max (max (max 0 (m' 2)) ((m' 3 + 1) / 2)) ((m' 4 + 2) / 3) := ⟨_, rfl⟩
      rw [← hC]
      rcases hor with ⟨r0, r9, rok, rn⟩ | ⟨r1, rn⟩
      · have hrC : r = C := by
          by_cases hlt : C < r
          · exact absurd (show _ from ⟨by omega, by omega, by omega⟩) (rn C (by omega) hlt)
          · omega
        rw [if_neg (by omega)]
        exact hrC
      · by_cases hlt : 999 < C
        · rw [if_pos hlt]; exact r1
        · exact absurd (show _ from ⟨by omega, by omega, by omega⟩) (rn C (by omega) (by omega))
    · have c4_2n : ¬ (0 ≤ w ∧ w < (ρ.1 1 7)) := fun hpq_ => absurd (if_pos hpq_ : (if 0 ≤ w ∧ w < (ρ.1 1 7) then (1 : Int) else 0) = 1) (by have := c4_2; omega)
      refine e_bipush (pc' := 18) (z := (-2)) dX11_hand_16 rfl (by decide) ?_
      exact e_iret dX11_hand_18 rfl ⟨rfl, Nat.le_refl _⟩ ⟨_, rfl, by rw [if_neg (by omega)], Fr.rf, KA.rf, h⟩
