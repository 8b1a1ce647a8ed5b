/-- the amount that is first among the best for a work, with so much left -/
def gR (σ : SG) (co w l : Int) : Int := (fbI (fun a => waS σ 1 w a + GW σ co (w + 1) (l - a)) (min 60 l)).1
theorem gR_in (σ : SG) (co w : Int) {l : Int} (hl : 0 ≤ l) : 0 ≤ gR σ co w l ∧ gR σ co w l ≤ min 60 l := by
  have h := fbN_in (fun a => waS σ 1 w a + GW σ co (w + 1) (l - a)) (min 60 l).toNat
  exact ⟨h.1, Int.le_trans h.2.1 (by omega)⟩
theorem s_fb {X : AX} {d : Nat} {σ τ : SG} (co tot : Int) (htot : 0 ≤ tot ∧ tot ≤ 260) (hR : GwR σ co tot) (hL : LvI σ τ co tot 0) (w l : Int) (hw : 0 ≤ w ∧ w < 3) (hl : 0 ≤ l ∧ tot - w * 60 ≤ l ∧ l ≤ tot) : Ev X 0 0 (d + 1) mX1_firstBest 0 [some (rv 49), some (iv w), some (iv l), none, none, none, none, none] [] τ (QI (fun r σ' => σ' = τ ∧ r = gR σ co w l)) := by
  have hA := (hL.1 w hw.1 hw.2).1
  have hnx : ∀ l, 0 ≤ l → tot - (w + 1) * 60 ≤ l → l ≤ tot → τ.1 51 ((w + 1) * 261 + l) = GW σ co (w + 1) l := by
    intro l' x y z
    by_cases hq : w + 1 = 3
    · rw [hq, show (3 : Int) * 261 + l' = 783 + l' by omega]; exact hL.2 l' x z
    · exact (hL.1 (w + 1) (by omega) (by omega)).2 l' x y z
  have hbe := hb_gw hw hA hnx hl
  have hr : ∀ a, 0 ≤ a → a ≤ 60 → a ≤ l → 0 ≤ hbS τ w l a ∧ hbS τ w l a ≤ 100000000 := by
    intro a x y z
    rw [hbe a x (by omega)]
    have r1 := hR.1 w a hw.1 hw.2 x y
    have r2 := hR.2 (w + 1) (l - a) (by omega) (by omega) (by omega) (by omega)
    omega
  refine Ev.imp (s_firstBest (σ := τ) w l hw ⟨by omega, by omega⟩ hr) ?_
  rintro v σ' ⟨r, h1, h2, h3⟩
  exact ⟨r, h1, h2, by rw [h3, fbI_cg (by omega) hbe]; rfl⟩

theorem LvI.fr {σ τ υ : SG} {co tot w : Int} (h : LvI σ τ co tot w) (e0 : υ.1 50 = τ.1 50) (e1 : υ.1 51 = τ.1 51) : LvI σ υ co tot w := by
  unfold LvI at *
  rw [e0, e1]
  exact h

set_option maxHeartbeats 4000000 in
set_option maxRecDepth 100000 in
theorem l_find131 {X : AX} {d : Nat} {σ τ : SG} (ho : ScOK σ 1) (co tot : Int) (hco : 0 ≤ co ∧ co ≤ 60) (htot : 0 ≤ tot ∧ tot ≤ 260) (hR : GwR σ co tot) (hL0 : LvI σ τ co tot 0) (hF : Fr [49, 50, 51, 52] σ τ) (x4 x5 : Option AV) : Ev X 0 0 (d + 3) mX1_find 131 [some (rv 49), some (rv 1), some (iv co), some (iv tot), x4, x5] [] τ (QV (fun σ' => σ'.1 49 3 = GW σ co 0 tot ∧ (σ'.1 52 0 = gR σ co 0 tot ∧ σ'.1 52 1 = gR σ co 1 (tot - gR σ co 0 tot) ∧ σ'.1 52 2 = gR σ co 2 (tot - gR σ co 0 tot - gR σ co 1 (tot - gR σ co 0 tot))) ∧ Fr [49, 50, 51, 52] σ σ')) := by
  have hmst : τ.1 51 tot = GW σ co 0 tot := by
    have q := (hL0.1 0 (by decide) (by decide)).2 tot (by omega) (by omega) (by omega)
    rw [show (0 : Int) * 261 + tot = tot by omega] at q
    exact q
  refine e_aload_n (pc' := 132) dX1_find_131 rfl rfl ?_
  refine e_aload_n (pc' := 133) dX1_find_132 rfl rfl ?_
  refine e_getR (pc' := 136) dX1_find_133 rfl f_1_15 h_49 rfl ?_
  refine e_iload_n (pc' := 137) dX1_find_136 rfl rfl ?_
  refine e_iald (pc' := 138) (v := (GW σ co 0 tot)) dX1_find_137 rfl h_51 (by decide) (by omega) (by omega) hmst ?_
  refine e_putI (pc' := 141) dX1_find_138 rfl f_1_54 h_49 rfl rfl rfl ?_
  refine e_iload_n (pc' := 142) dX1_find_141 rfl rfl ?_
  refine e_istore (pc' := 144) (L' := [some (rv 49), some (rv 1), some (iv co), some (iv tot), some (iv tot), x5]) dX1_find_142 rfl (by decide) rfl ?_
  refine e_iconst (pc' := 145) dX1_find_144 rfl ?_
  refine e_istore (pc' := 147) (L' := [some (rv 49), some (rv 1), some (iv co), some (iv tot), some (iv tot), some (iv 0)]) dX1_find_145 rfl (by decide) rfl ?_
  refine e_iload (pc' := 149) dX1_find_147 rfl rfl ?_
  refine e_iconst (pc' := 150) dX1_find_149 rfl ?_
  refine e_icmpI (pc' := 153) (t := 186) dX1_find_150 (by decide) rfl ⟨by omega, by omega⟩ ⟨by omega, by omega⟩ (fun c2_1 => absurd (show 3 ≤ (0 : Int) from c2_1) (by decide)) (fun _ => ?_)
  refine e_aload_n (pc' := 154) dX1_find_153 rfl rfl ?_
  refine e_getR (pc' := 157) dX1_find_154 rfl f_1_18 h_49 rfl ?_
  refine e_iload (pc' := 159) dX1_find_157 rfl rfl ?_
  refine e_aload_n (pc' := 160) dX1_find_159 rfl rfl ?_
  refine e_iload (pc' := 162) dX1_find_160 rfl rfl ?_
  refine e_iload (pc' := 164) dX1_find_162 rfl rfl ?_
  refine e_cv2i (pc' := 167) dX1_find_164 rfl k_1_47 h_49 rfl (Nat.le_of_ble_eq_true rfl) rfl rfl ⟨rfl, rfl⟩ ⟨Nat.zero_le _, Nat.zero_le _⟩ (s_fb (σ := σ) (τ := (upI τ 49 3 (GW σ co 0 tot))) co tot htot hR (hL0.fr rfl rfl) 0 tot (by decide) ⟨by omega, by omega, by omega⟩) ?_
  intro r0 σ' hr; obtain ⟨hs, hr0⟩ := hr; rw [hs]; clear hs σ'
  have b0 := gR_in σ co 0 (l := tot) (by omega)
  rw [← hr0] at b0
  refine e_iast (pc' := 168) dX1_find_167 rfl h_52 (by decide) (by omega) (by omega) ?_
  refine e_iload (pc' := 170) dX1_find_168 rfl rfl ?_
  refine e_aload_n (pc' := 171) dX1_find_170 rfl rfl ?_
  refine e_getR (pc' := 174) dX1_find_171 rfl f_1_18 h_49 rfl ?_
  refine e_iload (pc' := 176) dX1_find_174 rfl rfl ?_
  refine e_iald (pc' := 177) (v := r0) dX1_find_176 rfl h_52 (by decide) (by omega) (by omega) rfl ?_
  refine e_isub (pc' := 178) dX1_find_177 rfl ?_
  refine e_istore (pc' := 180) (L' := [some (rv 49), some (rv 1), some (iv co), some (iv tot), some (iv (tot - r0)), some (iv 0)]) dX1_find_178 rfl (by decide) rfl ?_
  refine e_iinc (pc' := 183) (L' := [some (rv 49), some (rv 1), some (iv co), some (iv tot), some (iv (tot - r0)), some (iv 1)]) dX1_find_180 rfl rfl (by decide) rfl ?_
  refine e_goto (pc' := 147) dX1_find_183 (by decide) ?_
  refine e_iload (pc' := 149) dX1_find_147 rfl rfl ?_
  refine e_iconst (pc' := 150) dX1_find_149 rfl ?_
  refine e_icmpI (pc' := 153) (t := 186) dX1_find_150 (by decide) rfl ⟨by omega, by omega⟩ ⟨by omega, by omega⟩ (fun c2_2 => absurd (show 3 ≤ (1 : Int) from c2_2) (by decide)) (fun _ => ?_)
  refine e_aload_n (pc' := 154) dX1_find_153 rfl rfl ?_
  refine e_getR (pc' := 157) dX1_find_154 rfl f_1_18 h_49 rfl ?_
  refine e_iload (pc' := 159) dX1_find_157 rfl rfl ?_
  refine e_aload_n (pc' := 160) dX1_find_159 rfl rfl ?_
  refine e_iload (pc' := 162) dX1_find_160 rfl rfl ?_
  refine e_iload (pc' := 164) dX1_find_162 rfl rfl ?_
  refine e_cv2i (pc' := 167) dX1_find_164 rfl k_1_47 h_49 rfl (Nat.le_of_ble_eq_true rfl) rfl rfl ⟨rfl, rfl⟩ ⟨Nat.zero_le _, Nat.zero_le _⟩ (s_fb (σ := σ) (τ := (upI (upI τ 49 3 (GW σ co 0 tot)) 52 0 r0)) co tot htot hR (hL0.fr rfl rfl) 1 (tot - r0) (by decide) ⟨by omega, by omega, by omega⟩) ?_
  intro r1 σ' hr; obtain ⟨hs, hr1⟩ := hr; rw [hs]; clear hs σ'
  have b1 := gR_in σ co 1 (l := (tot - r0)) (by omega)
  rw [← hr1] at b1
  refine e_iast (pc' := 168) dX1_find_167 rfl h_52 (by decide) (by omega) (by omega) ?_
  refine e_iload (pc' := 170) dX1_find_168 rfl rfl ?_
  refine e_aload_n (pc' := 171) dX1_find_170 rfl rfl ?_
  refine e_getR (pc' := 174) dX1_find_171 rfl f_1_18 h_49 rfl ?_
  refine e_iload (pc' := 176) dX1_find_174 rfl rfl ?_
  refine e_iald (pc' := 177) (v := r1) dX1_find_176 rfl h_52 (by decide) (by omega) (by omega) rfl ?_
  refine e_isub (pc' := 178) dX1_find_177 rfl ?_
  refine e_istore (pc' := 180) (L' := [some (rv 49), some (rv 1), some (iv co), some (iv tot), some (iv ((tot - r0) - r1)), some (iv 1)]) dX1_find_178 rfl (by decide) rfl ?_
  refine e_iinc (pc' := 183) (L' := [some (rv 49), some (rv 1), some (iv co), some (iv tot), some (iv ((tot - r0) - r1)), some (iv 2)]) dX1_find_180 rfl rfl (by decide) rfl ?_
  refine e_goto (pc' := 147) dX1_find_183 (by decide) ?_
  refine e_iload (pc' := 149) dX1_find_147 rfl rfl ?_
  refine e_iconst (pc' := 150) dX1_find_149 rfl ?_
  refine e_icmpI (pc' := 153) (t := 186) dX1_find_150 (by decide) rfl ⟨by omega, by omega⟩ ⟨by omega, by omega⟩ (fun c2_3 => absurd (show 3 ≤ (2 : Int) from c2_3) (by decide)) (fun _ => ?_)
  refine e_aload_n (pc' := 154) dX1_find_153 rfl rfl ?_
  refine e_getR (pc' := 157) dX1_find_154 rfl f_1_18 h_49 rfl ?_
  refine e_iload (pc' := 159) dX1_find_157 rfl rfl ?_
  refine e_aload_n (pc' := 160) dX1_find_159 rfl rfl ?_
  refine e_iload (pc' := 162) dX1_find_160 rfl rfl ?_
  refine e_iload (pc' := 164) dX1_find_162 rfl rfl ?_
  refine e_cv2i (pc' := 167) dX1_find_164 rfl k_1_47 h_49 rfl (Nat.le_of_ble_eq_true rfl) rfl rfl ⟨rfl, rfl⟩ ⟨Nat.zero_le _, Nat.zero_le _⟩ (s_fb (σ := σ) (τ := (upI (upI (upI τ 49 3 (GW σ co 0 tot)) 52 0 r0) 52 1 r1)) co tot htot hR (hL0.fr rfl rfl) 2 ((tot - r0) - r1) (by decide) ⟨by omega, by omega, by omega⟩) ?_
  intro r2 σ' hr; obtain ⟨hs, hr2⟩ := hr; rw [hs]; clear hs σ'
  have b2 := gR_in σ co 2 (l := ((tot - r0) - r1)) (by omega)
  rw [← hr2] at b2
  refine e_iast (pc' := 168) dX1_find_167 rfl h_52 (by decide) (by omega) (by omega) ?_
  refine e_iload (pc' := 170) dX1_find_168 rfl rfl ?_
  refine e_aload_n (pc' := 171) dX1_find_170 rfl rfl ?_
  refine e_getR (pc' := 174) dX1_find_171 rfl f_1_18 h_49 rfl ?_
  refine e_iload (pc' := 176) dX1_find_174 rfl rfl ?_
  refine e_iald (pc' := 177) (v := r2) dX1_find_176 rfl h_52 (by decide) (by omega) (by omega) rfl ?_
  refine e_isub (pc' := 178) dX1_find_177 rfl ?_
  refine e_istore (pc' := 180) (L' := [some (rv 49), some (rv 1), some (iv co), some (iv tot), some (iv (((tot - r0) - r1) - r2)), some (iv 2)]) dX1_find_178 rfl (by decide) rfl ?_
  refine e_iinc (pc' := 183) (L' := [some (rv 49), some (rv 1), some (iv co), some (iv tot), some (iv (((tot - r0) - r1) - r2)), some (iv 3)]) dX1_find_180 rfl rfl (by decide) rfl ?_
  refine e_goto (pc' := 147) dX1_find_183 (by decide) ?_
  refine e_iload (pc' := 149) dX1_find_147 rfl rfl ?_
  refine e_iconst (pc' := 150) dX1_find_149 rfl ?_
  refine e_icmpI (pc' := 153) (t := 186) dX1_find_150 (by decide) rfl ⟨by omega, by omega⟩ ⟨by omega, by omega⟩ (fun _ => ?_) (fun c2_4 => absurd (show 3 ≤ (3 : Int) by decide) c2_4)
  exact e_vret dX1_find_186 rfl ⟨rfl, Nat.le_refl _⟩ ⟨rfl, rfl, ⟨hr0, by rw [← hr0]; exact hr1, by rw [← hr0, ← hr1]; exact hr2⟩, by repeat (first | exact hF | (refine fr_I ?_ (by decide)))⟩

set_option maxHeartbeats 4000000 in
set_option maxRecDepth 100000 in
theorem s_find {X : AX} {d : Nat} {σ : SG} (ho : ScOK σ 1) (co tot : Int) (hcoe : co = smI (σ.1 2) (σ.1 1 6)) (hte : tot = min 260 (co + σ.1 1 10)) (hco : 0 ≤ co ∧ co ≤ 60) (hR : GwR σ co tot) : Ev X 0 0 (d + 3) mX1_find 0 [some (rv 49), some (rv 1), none, none, none, none] [] σ (QV (fun σ' => σ'.1 49 3 = GW σ co 0 tot ∧ (σ'.1 52 0 = gR σ co 0 tot ∧ σ'.1 52 1 = gR σ co 1 (tot - gR σ co 0 tot) ∧ σ'.1 52 2 = gR σ co 2 (tot - gR σ co 0 tot - gR σ co 1 (tot - gR σ co 0 tot))) ∧ Fr [49, 50, 51, 52] σ σ')) := by
  have h10 := ho.2.2.2.2.1
  refine e_aload_n (pc' := 1) dX1_find_0 rfl rfl ?_
  refine e_cv0i (pc' := 4) dX1_find_1 rfl k_1_21 h_1 rfl (Nat.le_of_ble_eq_true rfl) rfl rfl ⟨rfl, rfl⟩ ⟨Nat.zero_le _, Nat.zero_le _⟩ (s_coinInAll_1 ho.1) ?_
  intro r σ' hr; rw [hr.1, hr.2, ← hcoe]; clear hr σ'
  refine e_istore_n (pc' := 5) (L' := [some (rv 49), some (rv 1), some (iv co), none, none, none]) dX1_find_4 rfl (by decide) rfl ?_
  refine e_sipush (pc' := 8) (z := 260) dX1_find_5 rfl (by decide) ?_
  refine e_iload_n (pc' := 9) dX1_find_8 rfl rfl ?_
  refine e_aload_n (pc' := 10) dX1_find_9 rfl rfl ?_
  refine e_getI (pc' := 13) (v := (σ.1 1 10)) dX1_find_10 rfl f_1_27 h_1 rfl rfl ?_
  refine e_iadd (pc' := 14) dX1_find_13 rfl ?_
  refine e_min (pc' := 17) dX1_find_14 rfl p_1_31 ⟨by omega, by omega⟩ ⟨by omega, by omega⟩ (Nat.le_of_ble_eq_true rfl) ⟨Nat.zero_le _, Nat.zero_le _⟩ ?_
  rw [← hte]
  refine e_istore_n (pc' := 18) (L' := [some (rv 49), some (rv 1), some (iv co), some (iv tot), none, none]) dX1_find_17 rfl (by decide) rfl ?_
  refine e_iconst (pc' := 19) dX1_find_18 rfl ?_
  refine e_istore (pc' := 21) (L' := [some (rv 49), some (rv 1), some (iv co), some (iv tot), some (iv 0), none]) dX1_find_19 rfl (by decide) rfl ?_
  have htot : 0 ≤ tot ∧ tot ≤ 260 := by omega
  refine l_find1 ho co tot hco htot hR (fun τd yd hLd hFd => ?_) 400 0 σ (by omega) (by omega) (by omega) (fun l' p q => by omega) Fr.rf
  refine e_iconst (pc' := 56) dX1_find_55 rfl ?_
  refine e_istore (pc' := 58) (L' := [some (rv 49), some (rv 1), some (iv co), some (iv tot), some (iv 2), none]) dX1_find_56 rfl (by decide) rfl ?_
  refine e_iload (pc' := 60) dX1_find_58 rfl rfl ?_
  refine e_ifI (pc' := 63) (t := 131) dX1_find_60 (by decide) rfl ⟨by omega, by omega⟩ (fun c0_1 => absurd (show (2 : Int) < 0 from c0_1) (by decide)) (fun _ => ?_)
  refine l_findW ho co tot hco htot hR 2 (by decide) (fun τc yc hLc hFc => ?_) τd _ hLd hFd
  refine e_iinc (pc' := 128) (L' := [some (rv 49), some (rv 1), some (iv co), some (iv tot), some (iv 1), yc]) dX1_find_125 rfl rfl (by decide) rfl ?_
  refine e_goto (pc' := 58) dX1_find_128 (by decide) ?_
  refine e_iload (pc' := 60) dX1_find_58 rfl rfl ?_
  refine e_ifI (pc' := 63) (t := 131) dX1_find_60 (by decide) rfl ⟨by omega, by omega⟩ (fun c0_1 => absurd (show (1 : Int) < 0 from c0_1) (by decide)) (fun _ => ?_)
  refine l_findW ho co tot hco htot hR 1 (by decide) (fun τb yb hLb hFb => ?_) τc _ hLc hFc
  refine e_iinc (pc' := 128) (L' := [some (rv 49), some (rv 1), some (iv co), some (iv tot), some (iv 0), yb]) dX1_find_125 rfl rfl (by decide) rfl ?_
  refine e_goto (pc' := 58) dX1_find_128 (by decide) ?_
  refine e_iload (pc' := 60) dX1_find_58 rfl rfl ?_
  refine e_ifI (pc' := 63) (t := 131) dX1_find_60 (by decide) rfl ⟨by omega, by omega⟩ (fun c0_1 => absurd (show (0 : Int) < 0 from c0_1) (by decide)) (fun _ => ?_)
  refine l_findW ho co tot hco htot hR 0 (by decide) (fun τa ya hLa hFa => ?_) τb _ hLb hFb
  refine e_iinc (pc' := 128) (L' := [some (rv 49), some (rv 1), some (iv co), some (iv tot), some (iv (-1)), ya]) dX1_find_125 rfl rfl (by decide) rfl ?_
  refine e_goto (pc' := 58) dX1_find_128 (by decide) ?_
  refine e_iload (pc' := 60) dX1_find_58 rfl rfl ?_
  refine e_ifI (pc' := 63) (t := 131) dX1_find_60 (by decide) rfl ⟨by omega, by omega⟩ (fun _ => ?_) (fun c0_1 => absurd (show ((-1) : Int) < 0 by decide) c0_1)
  exact l_find131 ho co tot hco htot hR hLa hFa _ _
