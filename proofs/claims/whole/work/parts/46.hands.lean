/-- ways to part a gift: the hands behind the first, in falling order -/
def PvS (co x y z : Int) : Prop := 1 ≤ x ∧ 0 ≤ y ∧ y ≤ x ∧ 0 ≤ z ∧ z ≤ y ∧ x ≤ co - x - y - z
def DnS (i j k x y z : Int) : Prop := x < i ∨ (x = i ∧ (y < j ∨ (y = j ∧ z < k)))
/-- for each number of hands the most so far, 0 at least -/
def PtI (F : Int → Int → Int → Int) (co : Int) (m : Int → Int) (D : Int → Int → Int → Prop) : Prop := ∀ h, 2 ≤ h → h ≤ 4 → 0 ≤ m h ∧ (∀ x y z, PvS co x y z → D x y z → hnS y z = h → F x y z ≤ m h) ∧ (m h = 0 ∨ ∃ x y z, PvS co x y z ∧ hnS y z = h ∧ m h = F x y z)
theorem PtI.mono {F : Int → Int → Int → Int} {co : Int} {m : Int → Int} {D D' : Int → Int → Int → Prop} (h : PtI F co m D) (hd : ∀ x y z, PvS co x y z → D' x y z → D x y z) : PtI F co m D' := fun k a b => ⟨(h k a b).1, fun x y z p q e => (h k a b).2.1 x y z p (hd x y z p q) e, (h k a b).2.2⟩
theorem hnS_rg (y z : Int) : 2 ≤ hnS y z ∧ hnS y z ≤ 4 := by
  unfold hnS
  split
  · decide
  · split <;> decide
theorem PtI.step {F : Int → Int → Int → Int} {co : Int} {m m' : Int → Int} {D D' : Int → Int → Int → Prop} {x y z : Int} (h : PtI F co m D) (hm : ∀ j, m' j = if j = hnS y z then max (m j) (F x y z) else m j) (hp : PvS co x y z) (hd : ∀ a b c, D' a b c → D a b c ∨ (a = x ∧ b = y ∧ c = z)) : PtI F co m' D' := by
  intro k a b
  obtain ⟨h1, h2, h3⟩ := h k a b
  by_cases hk : k = hnS y z
  · rw [hm k, if_pos hk]
    refine ⟨by omega, fun x' y' z' p q e => ?_, ?_⟩
    · rcases hd _ _ _ q with q | ⟨rfl, rfl, rfl⟩
      · have := h2 x' y' z' p q e; omega
      · omega
    · by_cases hc : F x y z ≤ m k
      · rw [show max (m k) (F x y z) = m k by omega]; exact h3
      · right; exact ⟨x, y, z, hp, hk.symm, by omega⟩
  · rw [hm k, if_neg hk]
    refine ⟨h1, fun x' y' z' p q e => ?_, h3⟩
    rcases hd _ _ _ q with q | ⟨rfl, rfl, rfl⟩
    · exact h2 x' y' z' p q e
    · exact absurd e.symm hk
theorem LgI_cg {σ σ' τ : SG} {b : Nat} (ho : ScOK σ b) (e : SameSc σ σ' b) (h : LgI σ' τ b) : LgI σ τ b := by
  have h1 : wdS σ' b = wdS σ b := funext fun w => wdS_cg ho e w
  unfold LgI at *
  rw [h1, e b (by omega) (by omega)] at h
  exact ⟨fun w a c => ⟨by rw [(h.1 w a c).1, gfS_cg e], (h.1 w a c).2⟩, h.2⟩
def WaI (σ τ : SG) (g w co : Int) (D : Int → Int → Int → Prop) : Prop := PlI σ τ g w ∧ (∀ j, 0 ≤ j → j < 5 → 0 ≤ τ.1 54 j ∧ τ.1 54 j ≤ 1000000) ∧ PtI (ptM σ g w) co (τ.1 54) D
theorem WaI.mono {σ τ : SG} {g w co : Int} {D D' : Int → Int → Int → Prop} (h : WaI σ τ g w co D) (hd : ∀ x y z, PvS co x y z → D' x y z → D x y z) : WaI σ τ g w co D' := ⟨h.1, h.2.1, h.2.2.mono hd⟩

set_option maxHeartbeats 4000000 in
set_option maxRecDepth 100000 in
theorem l_wa4 {X : AX} {d : Nat} {σ : SG} {Q : Option AV → SG → Prop} (ho : ScOK σ 1) (g w co : Int) (hg : 0 ≤ g ∧ g < σ.1 1 6) (hw : 0 ≤ w ∧ w < σ.1 1 7) (hco : 0 ≤ co ∧ co ≤ 12) (hV : ∀ x y z, PvS co x y z → -1000000 ≤ ptM σ g w x y z ∧ ptM σ g w x y z ≤ 1000000) (hb : 0 ≤ bfS σ 1 g ∧ bfS σ 1 g ≤ 1000000) (i j : Int) (hi : 1 ≤ i ∧ i ≤ 6) (hj : 0 ≤ j ∧ j ≤ i) (hK : ∀ (τ : SG) (y7 : Option AV), WaI σ τ g w co (DnS i (j + 1) 0) → Ev X 0 0 (d + 5) mX4_weighAll 128 [some (rv 53), some (rv 1), some (iv g), some (iv w), some (iv co), some (iv i), some (iv j), y7] [] τ Q) : ∀ (n : Nat) (k : Int) (τ : SG), 0 ≤ k → k + n = j + 1 → WaI σ τ g w co (DnS i j k) → Ev X 0 0 (d + 5) mX4_weighAll 86 [some (rv 53), some (rv 1), some (iv g), some (iv w), some (iv co), some (iv i), some (iv j), some (iv k)] [] τ Q := by
  intro n
  induction n using Nat.strongRecOn with
  | ind n ih =>
  intro k τ hk0 hn hI
  have h6 := ho.1
  have h7 := ho.2.1
  refine e_iload (pc' := 88) dX4_weighAll_86 rfl rfl ?_
  refine e_iload (pc' := 90) dX4_weighAll_88 rfl rfl ?_
  refine e_icmpI (pc' := 93) (t := 128) dX4_weighAll_90 (by decide) rfl ⟨by omega, by omega⟩ ⟨by omega, by omega⟩ (fun (c2_1 : j < (k : Int)) => ?_) (fun (c2_1 : ¬ (j < (k : Int))) => ?_)
  · exact hK τ _ (hI.mono (fun a b c p q => by unfold DnS PvS at *; omega))
  · refine e_iload (pc' := 95) dX4_weighAll_93 rfl rfl ?_
    refine e_iload (pc' := 97) dX4_weighAll_95 rfl rfl ?_
    refine e_isub (pc' := 98) dX4_weighAll_97 rfl ?_
    refine e_iload (pc' := 100) dX4_weighAll_98 rfl rfl ?_
    refine e_isub (pc' := 101) dX4_weighAll_100 rfl ?_
    refine e_iload (pc' := 103) dX4_weighAll_101 rfl rfl ?_
    refine e_isub (pc' := 104) dX4_weighAll_103 rfl ?_
    refine e_iload (pc' := 106) dX4_weighAll_104 rfl rfl ?_
    refine e_icmpI (pc' := 109) (t := 122) dX4_weighAll_106 (by decide) rfl ⟨by omega, by omega⟩ ⟨by omega, by omega⟩ (fun (c4_2 : ((((co - i) - j) - k) : Int) < i) => ?_) (fun (c4_2 : ¬ (((((co - i) - j) - k) : Int) < i)) => ?_)
    · refine e_iinc (pc' := 125) (L' := [some (rv 53), some (rv 1), some (iv g), some (iv w), some (iv co), some (iv i), some (iv j), some (iv (k + 1))]) dX4_weighAll_122 rfl rfl (by decide) rfl ?_
      refine e_goto (pc' := 86) dX4_weighAll_125 (by decide) ?_
      match n, hn with
      | 0, hn => omega
      | n + 1, hn => exact ih n (by omega) _ _ (by omega) (by omega) (hI.mono (fun a b c p q => by unfold DnS PvS at *; omega))
    · refine e_aload_n (pc' := 110) dX4_weighAll_109 rfl rfl ?_
      refine e_aload_n (pc' := 111) dX4_weighAll_110 rfl rfl ?_
      refine e_iload_n (pc' := 112) dX4_weighAll_111 rfl rfl ?_
      refine e_iload_n (pc' := 113) dX4_weighAll_112 rfl rfl ?_
      refine e_iload (pc' := 115) dX4_weighAll_113 rfl rfl ?_
      refine e_iload (pc' := 117) dX4_weighAll_115 rfl rfl ?_
      refine e_iload (pc' := 119) dX4_weighAll_117 rfl rfl ?_
      refine e_cv6v (pc' := 122) dX4_weighAll_119 rfl k_4_42 h_53 rfl (Nat.le_of_ble_eq_true rfl) rfl rfl ⟨rfl, rfl⟩ ⟨Nat.zero_le _, Nat.zero_le _⟩ (s_pweigh ho g w i j k hg hw ⟨by omega, by omega⟩ ⟨by omega, by omega⟩ ⟨by omega, by omega⟩ hI.1 hI.2.1 (hV i j k ⟨by omega, by omega, by omega, by omega, by omega, by omega⟩) ⟨by omega, by omega⟩) ?_
      rintro τ2 ⟨hP2, hm2⟩
      have hv2 := hV i j k ⟨by omega, by omega, by omega, by omega, by omega, by omega⟩
      have hI2 : WaI σ τ2 g w co (DnS i j (k + 1)) := ⟨hP2, fun q a b => by rw [hm2 q]; have := hI.2.1 q a b; split <;> omega, hI.2.2.step hm2 ⟨by omega, by omega, by omega, by omega, by omega, by omega⟩ (fun a b c q => by unfold DnS at *; omega)⟩
      refine e_iinc (pc' := 125) (L' := [some (rv 53), some (rv 1), some (iv g), some (iv w), some (iv co), some (iv i), some (iv j), some (iv (k + 1))]) dX4_weighAll_122 rfl rfl (by decide) rfl ?_
      refine e_goto (pc' := 86) dX4_weighAll_125 (by decide) ?_
      match n, hn with
      | 0, hn => omega
      | n + 1, hn => exact ih n (by omega) _ _ (by omega) (by omega) hI2

set_option maxHeartbeats 4000000 in
set_option maxRecDepth 100000 in
theorem l_wa3 {X : AX} {d : Nat} {σ : SG} {Q : Option AV → SG → Prop} (ho : ScOK σ 1) (g w co : Int) (hg : 0 ≤ g ∧ g < σ.1 1 6) (hw : 0 ≤ w ∧ w < σ.1 1 7) (hco : 0 ≤ co ∧ co ≤ 12) (hV : ∀ x y z, PvS co x y z → -1000000 ≤ ptM σ g w x y z ∧ ptM σ g w x y z ≤ 1000000) (hb : 0 ≤ bfS σ 1 g ∧ bfS σ 1 g ≤ 1000000) (i : Int) (hi : 1 ≤ i ∧ i ≤ 6) (hK : ∀ (τ : SG) (y6 y7 : Option AV), WaI σ τ g w co (DnS (i + 1) 0 0) → Ev X 0 0 (d + 5) mX4_weighAll 134 [some (rv 53), some (rv 1), some (iv g), some (iv w), some (iv co), some (iv i), y6, y7] [] τ Q) : ∀ (n : Nat) (j : Int) (τ : SG) (x7 : Option AV), 0 ≤ j → j + n = i + 1 → WaI σ τ g w co (DnS i j 0) → Ev X 0 0 (d + 5) mX4_weighAll 76 [some (rv 53), some (rv 1), some (iv g), some (iv w), some (iv co), some (iv i), some (iv j), x7] [] τ Q := by
  intro n
  induction n using Nat.strongRecOn with
  | ind n ih =>
  intro j τ x7 hj0 hn hI
  refine e_iload (pc' := 78) dX4_weighAll_76 rfl rfl ?_
  refine e_iload (pc' := 80) dX4_weighAll_78 rfl rfl ?_
  refine e_icmpI (pc' := 83) (t := 134) dX4_weighAll_80 (by decide) rfl ⟨by omega, by omega⟩ ⟨by omega, by omega⟩ (fun (c2_1 : i < (j : Int)) => ?_) (fun (c2_1 : ¬ (i < (j : Int))) => ?_)
  · exact hK τ _ _ (hI.mono (fun a b c p q => by unfold DnS PvS at *; omega))
  · refine e_iconst (pc' := 84) dX4_weighAll_83 rfl ?_
    refine e_istore (pc' := 86) (L' := [some (rv 53), some (rv 1), some (iv g), some (iv w), some (iv co), some (iv i), some (iv j), some (iv 0)]) dX4_weighAll_84 rfl (by decide) rfl ?_
    refine l_wa4 ho g w co hg hw hco hV hb i j hi ⟨by omega, by omega⟩ (fun τ' y7 hI' => ?_) (j + 1).toNat 0 τ (by omega) (by omega) hI
    refine e_iinc (pc' := 131) (L' := [some (rv 53), some (rv 1), some (iv g), some (iv w), some (iv co), some (iv i), some (iv (j + 1)), y7]) dX4_weighAll_128 rfl rfl (by decide) rfl ?_
    refine e_goto (pc' := 76) dX4_weighAll_131 (by decide) ?_
    match n, hn with
    | 0, hn => omega
    | n + 1, hn => exact ih n (by omega) _ _ _ (by omega) (by omega) hI'

set_option maxHeartbeats 4000000 in
set_option maxRecDepth 100000 in
theorem l_wa2 {X : AX} {d : Nat} {σ : SG} (ho : ScOK σ 1) (g w co : Int) (hg : 0 ≤ g ∧ g < σ.1 1 6) (hw : 0 ≤ w ∧ w < σ.1 1 7) (hco : 0 ≤ co ∧ co ≤ 12) (hV : ∀ x y z, PvS co x y z → -1000000 ≤ ptM σ g w x y z ∧ ptM σ g w x y z ≤ 1000000) (hb : 0 ≤ bfS σ 1 g ∧ bfS σ 1 g ≤ 1000000) : ∀ (n : Nat) (i : Int) (τ : SG) (x6 x7 : Option AV), 1 ≤ i → i ≤ 7 → 10 - i < n → WaI σ τ g w co (DnS i 0 0) → Ev X 0 0 (d + 5) mX4_weighAll 64 [some (rv 53), some (rv 1), some (iv g), some (iv w), some (iv co), some (iv i), x6, x7] [] τ (QV (fun σ' => WaI σ σ' g w co (fun _ _ _ => True))) := by
  intro n
  induction n with
  | zero => intros; omega
  | succ n ih =>
  intro i τ x6 x7 hi0 hi7 hn hI
  refine e_iload (pc' := 66) dX4_weighAll_64 rfl rfl ?_
  refine e_iload (pc' := 68) dX4_weighAll_66 rfl rfl ?_
  refine e_iconst (pc' := 69) dX4_weighAll_68 rfl ?_
  refine e_idiv (pc' := 70) dX4_weighAll_69 rfl (by omega) (by omega) (by omega) (by omega) ?_
  refine e_icmpI (pc' := 73) (t := 140) dX4_weighAll_70 (by decide) rfl ⟨by omega, by omega⟩ ⟨by omega, by omega⟩ (fun (c2_1 : (co / 2) < (i : Int)) => ?_) (fun (c2_1 : ¬ ((co / 2) < (i : Int))) => ?_)
  · exact e_vret dX4_weighAll_140 rfl ⟨rfl, Nat.le_refl _⟩ ⟨rfl, hI.mono (fun a b c p q => by unfold DnS PvS at *; omega)⟩
  · refine e_iconst (pc' := 74) dX4_weighAll_73 rfl ?_
    refine e_istore (pc' := 76) (L' := [some (rv 53), some (rv 1), some (iv g), some (iv w), some (iv co), some (iv i), some (iv 0), x7]) dX4_weighAll_74 rfl (by decide) rfl ?_
    refine l_wa3 ho g w co hg hw hco hV hb i ⟨by omega, by omega⟩ (fun τ' y6 y7 hI' => ?_) (i + 1).toNat 0 τ _ (by omega) (by omega) hI
    refine e_iinc (pc' := 137) (L' := [some (rv 53), some (rv 1), some (iv g), some (iv w), some (iv co), some (iv (i + 1)), y6, y7]) dX4_weighAll_134 rfl rfl (by decide) rfl ?_
    refine e_goto (pc' := 64) dX4_weighAll_137 (by decide) ?_
    exact ih _ _ _ _ (by omega) (by omega) (by omega) hI'

set_option maxHeartbeats 4000000 in
set_option maxRecDepth 100000 in
theorem s_weighAll {X : AX} {d : Nat} {σ : SG} (ho : ScOK σ 1) (g w : Int) (hg : 0 ≤ g ∧ g < σ.1 1 6) (hw : 0 ≤ w ∧ w < σ.1 1 7) (hV : ∀ x y z, PvS (σ.1 6 (g * 3 + w)) x y z → -1000000 ≤ ptM σ g w x y z ∧ ptM σ g w x y z ≤ 1000000) (hb : 0 ≤ bfS σ 1 g ∧ bfS σ 1 g ≤ 1000000) : Ev X 0 0 (d + 5) mX4_weighAll 0 [some (rv 53), some (rv 1), some (iv g), some (iv w), none, none, none, none] [] σ (QV (fun σ' => WaI σ σ' g w (σ.1 6 (g * 3 + w)) (fun _ _ _ => True))) := by
  have h6 := ho.1
  have h7 := ho.2.1
  refine e_iconst (pc' := 1) dX4_weighAll_0 rfl ?_
  refine e_istore (pc' := 3) (L' := [some (rv 53), some (rv 1), some (iv g), some (iv w), some (iv 0), none, none, none]) dX4_weighAll_1 rfl (by decide) rfl ?_
  refine e_iload (pc' := 5) dX4_weighAll_3 rfl rfl ?_
  refine e_iconst (pc' := 6) dX4_weighAll_5 rfl ?_
  refine e_icmpI (pc' := 9) (t := 23) dX4_weighAll_6 (by decide) rfl ⟨by omega, by omega⟩ ⟨by omega, by omega⟩ (fun c2_1 => absurd (show 4 < (0 : Int) from c2_1) (by decide)) (fun _ => ?_)
  refine e_aload_n (pc' := 10) dX4_weighAll_9 rfl rfl ?_
  refine e_getR (pc' := 13) dX4_weighAll_10 rfl f_4_9 h_53 rfl ?_
  refine e_iload (pc' := 15) dX4_weighAll_13 rfl rfl ?_
  refine e_iconst (pc' := 16) dX4_weighAll_15 rfl ?_
  refine e_iast (pc' := 17) dX4_weighAll_16 rfl h_54 (by decide) (by omega) (by omega) ?_
  refine e_iinc (pc' := 20) (L' := [some (rv 53), some (rv 1), some (iv g), some (iv w), some (iv 1), none, none, none]) dX4_weighAll_17 rfl rfl (by decide) rfl ?_
  refine e_goto (pc' := 3) dX4_weighAll_20 (by decide) ?_
  refine e_iload (pc' := 5) dX4_weighAll_3 rfl rfl ?_
  refine e_iconst (pc' := 6) dX4_weighAll_5 rfl ?_
  refine e_icmpI (pc' := 9) (t := 23) dX4_weighAll_6 (by decide) rfl ⟨by omega, by omega⟩ ⟨by omega, by omega⟩ (fun c2_2 => absurd (show 4 < (1 : Int) from c2_2) (by decide)) (fun _ => ?_)
  refine e_aload_n (pc' := 10) dX4_weighAll_9 rfl rfl ?_
  refine e_getR (pc' := 13) dX4_weighAll_10 rfl f_4_9 h_53 rfl ?_
  refine e_iload (pc' := 15) dX4_weighAll_13 rfl rfl ?_
  refine e_iconst (pc' := 16) dX4_weighAll_15 rfl ?_
  refine e_iast (pc' := 17) dX4_weighAll_16 rfl h_54 (by decide) (by omega) (by omega) ?_
  refine e_iinc (pc' := 20) (L' := [some (rv 53), some (rv 1), some (iv g), some (iv w), some (iv 2), none, none, none]) dX4_weighAll_17 rfl rfl (by decide) rfl ?_
  refine e_goto (pc' := 3) dX4_weighAll_20 (by decide) ?_
  refine e_iload (pc' := 5) dX4_weighAll_3 rfl rfl ?_
  refine e_iconst (pc' := 6) dX4_weighAll_5 rfl ?_
  refine e_icmpI (pc' := 9) (t := 23) dX4_weighAll_6 (by decide) rfl ⟨by omega, by omega⟩ ⟨by omega, by omega⟩ (fun c2_3 => absurd (show 4 < (2 : Int) from c2_3) (by decide)) (fun _ => ?_)
  refine e_aload_n (pc' := 10) dX4_weighAll_9 rfl rfl ?_
  refine e_getR (pc' := 13) dX4_weighAll_10 rfl f_4_9 h_53 rfl ?_
  refine e_iload (pc' := 15) dX4_weighAll_13 rfl rfl ?_
  refine e_iconst (pc' := 16) dX4_weighAll_15 rfl ?_
  refine e_iast (pc' := 17) dX4_weighAll_16 rfl h_54 (by decide) (by omega) (by omega) ?_
  refine e_iinc (pc' := 20) (L' := [some (rv 53), some (rv 1), some (iv g), some (iv w), some (iv 3), none, none, none]) dX4_weighAll_17 rfl rfl (by decide) rfl ?_
  refine e_goto (pc' := 3) dX4_weighAll_20 (by decide) ?_
  refine e_iload (pc' := 5) dX4_weighAll_3 rfl rfl ?_
  refine e_iconst (pc' := 6) dX4_weighAll_5 rfl ?_
  refine e_icmpI (pc' := 9) (t := 23) dX4_weighAll_6 (by decide) rfl ⟨by omega, by omega⟩ ⟨by omega, by omega⟩ (fun c2_4 => absurd (show 4 < (3 : Int) from c2_4) (by decide)) (fun _ => ?_)
  refine e_aload_n (pc' := 10) dX4_weighAll_9 rfl rfl ?_
  refine e_getR (pc' := 13) dX4_weighAll_10 rfl f_4_9 h_53 rfl ?_
  refine e_iload (pc' := 15) dX4_weighAll_13 rfl rfl ?_
  refine e_iconst (pc' := 16) dX4_weighAll_15 rfl ?_
  refine e_iast (pc' := 17) dX4_weighAll_16 rfl h_54 (by decide) (by omega) (by omega) ?_
  refine e_iinc (pc' := 20) (L' := [some (rv 53), some (rv 1), some (iv g), some (iv w), some (iv 4), none, none, none]) dX4_weighAll_17 rfl rfl (by decide) rfl ?_
  refine e_goto (pc' := 3) dX4_weighAll_20 (by decide) ?_
  refine e_iload (pc' := 5) dX4_weighAll_3 rfl rfl ?_
  refine e_iconst (pc' := 6) dX4_weighAll_5 rfl ?_
  refine e_icmpI (pc' := 9) (t := 23) dX4_weighAll_6 (by decide) rfl ⟨by omega, by omega⟩ ⟨by omega, by omega⟩ (fun c2_5 => absurd (show 4 < (4 : Int) from c2_5) (by decide)) (fun _ => ?_)
  refine e_aload_n (pc' := 10) dX4_weighAll_9 rfl rfl ?_
  refine e_getR (pc' := 13) dX4_weighAll_10 rfl f_4_9 h_53 rfl ?_
  refine e_iload (pc' := 15) dX4_weighAll_13 rfl rfl ?_
  refine e_iconst (pc' := 16) dX4_weighAll_15 rfl ?_
  refine e_iast (pc' := 17) dX4_weighAll_16 rfl h_54 (by decide) (by omega) (by omega) ?_
  refine e_iinc (pc' := 20) (L' := [some (rv 53), some (rv 1), some (iv g), some (iv w), some (iv 5), none, none, none]) dX4_weighAll_17 rfl rfl (by decide) rfl ?_
  refine e_goto (pc' := 3) dX4_weighAll_20 (by decide) ?_
  refine e_iload (pc' := 5) dX4_weighAll_3 rfl rfl ?_
  refine e_iconst (pc' := 6) dX4_weighAll_5 rfl ?_
  refine e_icmpI (pc' := 9) (t := 23) dX4_weighAll_6 (by decide) rfl ⟨by omega, by omega⟩ ⟨by omega, by omega⟩ (fun _ => ?_) (fun c2_6 => absurd (show 4 < (5 : Int) by decide) c2_6)
  refine e_aload_n (pc' := 24) dX4_weighAll_23 rfl rfl ?_
  refine e_getR (pc' := 27) dX4_weighAll_24 rfl f_4_15 h_53 rfl ?_
  refine e_aload_n (pc' := 28) dX4_weighAll_27 rfl rfl ?_
  refine e_cv1v (pc' := 31) dX4_weighAll_28 rfl k_4_19 h_39 rfl (Nat.le_of_ble_eq_true rfl) rfl rfl ⟨rfl, rfl⟩ ⟨Nat.zero_le _, Nat.zero_le _⟩ (s_fill_1 (σ := (upI (upI (upI (upI (upI σ 54 0 0) 54 1 0) 54 2 0) 54 3 0) 54 4 0)) ho) ?_
  rintro τ1 ⟨hL1, hG1⟩
  have hF0 : Fr [37, 38, 39, 40, 41, 42, 53, 54] σ (upI (upI (upI (upI (upI σ 54 0 0) 54 1 0) 54 2 0) 54 3 0) 54 4 0) := (by repeat (first | exact Fr.rf | (refine fr_I ?_ (by decide)) | (refine fr_J ?_ (by decide)) | (refine fr_C ?_ (by decide))))
  have hF1 : Fr [37, 38, 39, 40, 41, 42, 53, 54] σ τ1 := hF0.tr (hG1.mono (by decide))
  replace hL1 := LgI_cg ho (sameSc_P hF0) hL1
  have ho1 : ScOK τ1 1 := ho.cg (sameSc_P hF1)
  have h54 : τ1.1 54 = ((upI (upI (upI (upI (upI σ 54 0 0) 54 1 0) 54 2 0) 54 3 0) 54 4 0)).1 54 := (hG1 54 (by decide)).1
  refine e_aload_n (pc' := 32) dX4_weighAll_31 rfl rfl ?_
  refine e_aload_n (pc' := 33) dX4_weighAll_32 rfl rfl ?_
  refine e_getR (pc' := 36) dX4_weighAll_33 rfl f_4_15 h_53 rfl ?_
  refine e_aload_n (pc' := 37) dX4_weighAll_36 rfl rfl ?_
  refine e_iload_n (pc' := 38) dX4_weighAll_37 rfl rfl ?_
  refine e_aload_n (pc' := 39) dX4_weighAll_38 rfl rfl ?_
  refine e_iload_n (pc' := 40) dX4_weighAll_39 rfl rfl ?_
  refine e_cv1i (pc' := 43) dX4_weighAll_40 rfl k_4_25 h_1 rfl (Nat.le_of_ble_eq_true rfl) rfl rfl ⟨rfl, rfl⟩ ⟨Nat.zero_le _, Nat.zero_le _⟩ (s_keptBy_1 g (by omega) (by omega)) ?_
  intro r σ' hr; rw [hr.1, hr.2]; clear hr σ'
  rw [show τ1.1 2 g - gv (τ1.1 6) g = ktO τ1 1 g from rfl]
  refine e_cv3i (pc' := 46) dX4_weighAll_43 rfl k_4_31 h_39 rfl (Nat.le_of_ble_eq_true rfl) rfl rfl ⟨rfl, rfl⟩ ⟨Nat.zero_le _, Nat.zero_le _⟩ (s_haveOf_1 ho1 (LgI_q ho hL1 (gfS_rg ho)) g (ktO τ1 1 g) ⟨by omega, by omega⟩) ?_
  intro r σ' hr; rw [hr.1, hr.2]; clear hr σ'
  rw [show hvO τ1 1 (fun w => τ1.1 40 w + τ1.1 42 w) (ktO τ1 1 g) g = bfS σ 1 g from hv_bf (sameSc_P hF1) hL1]
  refine e_putI (pc' := 49) dX4_weighAll_46 rfl f_4_35 h_53 rfl rfl rfl ?_
  refine e_aload_n (pc' := 50) dX4_weighAll_49 rfl rfl ?_
  refine e_getR (pc' := 53) dX4_weighAll_50 rfl f_4_39 h_1 rfl ?_
  refine e_iload_n (pc' := 54) dX4_weighAll_53 rfl rfl ?_
  refine e_iconst (pc' := 55) dX4_weighAll_54 rfl ?_
  refine e_imul (pc' := 56) dX4_weighAll_55 rfl ?_
  refine e_iload_n (pc' := 57) dX4_weighAll_56 rfl rfl ?_
  refine e_iadd (pc' := 58) dX4_weighAll_57 rfl ?_
  refine e_iald (pc' := 59) (v := (σ.1 6 ((g * 3) + w))) dX4_weighAll_58 rfl h_6 (by decide) (by omega) (by omega) ((congrFun (hF1 6 (by decide)).1 ((g * 3) + w)).trans rfl) ?_
  refine e_istore (pc' := 61) (L' := [some (rv 53), some (rv 1), some (iv g), some (iv w), some (iv (σ.1 6 ((g * 3) + w))), none, none, none]) dX4_weighAll_59 rfl (by decide) rfl ?_
  refine e_iconst (pc' := 62) dX4_weighAll_61 rfl ?_
  refine e_istore (pc' := 64) (L' := [some (rv 53), some (rv 1), some (iv g), some (iv w), some (iv (σ.1 6 ((g * 3) + w))), some (iv 1), none, none]) dX4_weighAll_62 rfl (by decide) rfl ?_
  have hco : 0 ≤ (σ.1 6 (g * 3 + w)) ∧ (σ.1 6 (g * 3 + w)) ≤ 12 := ho.2.2.2.2.2.2.1 (g * 3 + w) (by omega) (by omega)
  refine l_wa2 ho g w (σ.1 6 (g * 3 + w)) hg hw hco hV hb 10 1 _ _ _ (by omega) (by omega) (by omega) ⟨⟨fun v a b => (hL1.1 v a b).1, fun v a b _ => (hL1.1 v a b).2.1, rfl, fr_I hF1 (by decide)⟩, fun q a b => ?_, fun h a b => ?_⟩
  · show 0 ≤ τ1.1 54 q ∧ τ1.1 54 q ≤ 1000000
    rw [h54]
    have hq : q = 0 ∨ q = 1 ∨ q = 2 ∨ q = 3 ∨ q = 4 := by omega
    rcases hq with rfl | rfl | rfl | rfl | rfl <;> exact (show (0 : Int) ≤ 0 ∧ (0 : Int) ≤ 1000000 by decide)
  · have e : τ1.1 54 h = 0 := by
      rw [h54]
      have hq : h = 2 ∨ h = 3 ∨ h = 4 := by omega
      rcases hq with rfl | rfl | rfl <;> rfl
    show 0 ≤ τ1.1 54 h ∧ _ ∧ (τ1.1 54 h = 0 ∨ _)
    rw [e]
    exact ⟨Int.le_refl _, fun x y z p q => absurd q (by unfold DnS PvS at *; omega), Or.inl rfl⟩

set_option maxHeartbeats 4000000 in
set_option maxRecDepth 100000 in
theorem s_gain {X : AX} {d : Nat} {σ : SG} (ho : ScOK σ 1) (g w : Int) (hg : rg g) (hw : rg w) (hV : (0 ≤ g ∧ g < σ.1 1 6) → (0 ≤ w ∧ w < σ.1 1 7) → ∀ x y z, PvS (σ.1 6 (g * 3 + w)) x y z → -1000000 ≤ ptM σ g w x y z ∧ ptM σ g w x y z ≤ 1000000) (hb : ∀ g, (0 ≤ g ∧ g < σ.1 1 6) → 0 ≤ bfS σ 1 g ∧ bfS σ 1 g ≤ 1000000) : Ev X 0 0 (d + 6) mX10_gain 0 [some (rv 0), some (iv g), some (iv w)] [] σ (QI (fun r σ' => (if (0 ≤ g ∧ g < σ.1 1 6) ∧ (0 ≤ w ∧ w < σ.1 1 7) then (∃ m : Int → Int, PtI (ptM σ g w) (σ.1 6 (g * 3 + w)) m (fun _ _ _ => True) ∧ r = max (max (max 0 (m 2)) (m 3)) (m 4)) else r = -2) ∧ Fr [37, 38, 39, 40, 41, 42, 53, 54] σ σ')) := by
  obtain ⟨hg1, hg2⟩ := hg
  obtain ⟨hw1, hw2⟩ := hw
  have h6 := ho.1
  have h7 := ho.2.1
  refine e_aload_n (pc' := 1) dX10_gain_0 rfl rfl ?_
  refine e_iload_n (pc' := 2) dX10_gain_1 rfl rfl ?_
  refine e_iload_n (pc' := 3) dX10_gain_2 rfl rfl ?_
  refine e_cv2i (pc' := 6) dX10_gain_3 rfl k_10_107 h_0 rfl (Nat.le_of_ble_eq_true rfl) rfl rfl ⟨rfl, rfl⟩ ⟨Nat.zero_le _, Nat.zero_le _⟩ (s_isPair g w ⟨by omega, by omega⟩ ⟨by omega, by omega⟩ ho.1 ho.2.1) ?_
  intro r σ' hr; rw [hr.1, hr.2]; clear hr
  refine e_ifI (pc' := 9) (t := 12) dX10_gain_6 (by decide) rfl ⟨by first | omega | (split <;> omega), by first | omega | (split <;> omega)⟩ (fun (c2_1 : ((if (0 ≤ g ∧ g < σ.1 1 6) ∧ (0 ≤ w ∧ w < σ.1 1 7) then 1 else 0) : Int) ≠ 0) => ?_) (fun (c2_1 : ¬ (((if (0 ≤ g ∧ g < σ.1 1 6) ∧ (0 ≤ w ∧ w < σ.1 1 7) then 1 else 0) : Int) ≠ 0)) => ?_)
  · have c2_1n : (0 ≤ g ∧ g < σ.1 1 6) ∧ (0 ≤ w ∧ w < σ.1 1 7) := Classical.byContradiction (fun q => absurd (if_neg q : (if (0 ≤ g ∧ g < σ.1 1 6) ∧ (0 ≤ w ∧ w < σ.1 1 7) then (1 : Int) else 0) = 0) (by have := c2_1; omega))
    refine e_aload_n (pc' := 13) dX10_gain_12 rfl rfl ?_
    refine e_getR (pc' := 16) dX10_gain_13 rfl f_10_78 h_0 rfl ?_
    refine e_aload_n (pc' := 17) dX10_gain_16 rfl rfl ?_
    refine e_getR (pc' := 20) dX10_gain_17 rfl f_10_10 h_0 rfl ?_
    refine e_iload_n (pc' := 21) dX10_gain_20 rfl rfl ?_
    refine e_iload_n (pc' := 22) dX10_gain_21 rfl rfl ?_
    refine e_cv3v (pc' := 25) dX10_gain_22 rfl k_10_213 h_53 rfl (Nat.le_of_ble_eq_true rfl) rfl rfl ⟨rfl, rfl⟩ ⟨Nat.zero_le _, Nat.zero_le _⟩ (s_weighAll ho g w (by omega) (by omega) (hV ⟨by omega, by omega⟩ ⟨by omega, by omega⟩) (hb g ⟨by omega, by omega⟩)) ?_
    intro τ1 hI1
    have hmr := hI1.2.1
    have m2 := hmr 2 (by decide) (by decide)
    have m3 := hmr 3 (by decide) (by decide)
    have m4 := hmr 4 (by decide) (by decide)
    refine e_aload_n (pc' := 26) dX10_gain_25 rfl rfl ?_
    refine e_getR (pc' := 29) dX10_gain_26 rfl f_10_78 h_0 rfl ?_
    refine e_cv0i (pc' := 32) dX10_gain_29 rfl k_10_217 h_53 rfl (Nat.le_of_ble_eq_true rfl) rfl rfl ⟨rfl, rfl⟩ ⟨Nat.zero_le _, Nat.zero_le _⟩ (s_most hmr) ?_
    intro r σ' hr; rw [hr.1, hr.2]; clear hr σ'
    exact e_iret dX10_gain_32 rfl ⟨rfl, Nat.le_refl _⟩ ⟨_, rfl, by rw [if_pos (by omega)]; exact ⟨τ1.1 54, hI1.2.2, by first | rfl | rw [if_pos (by omega)] | rw [if_neg (by omega)]⟩, hI1.1.2.2.2⟩
  · have c2_1n : ¬ ((0 ≤ g ∧ g < σ.1 1 6) ∧ (0 ≤ w ∧ w < σ.1 1 7)) := fun q => absurd (if_pos q : (if (0 ≤ g ∧ g < σ.1 1 6) ∧ (0 ≤ w ∧ w < σ.1 1 7) then (1 : Int) else 0) = 1) (by have := c2_1; omega)
    refine e_bipush (pc' := 11) (z := (-2)) dX10_gain_9 rfl (by decide) ?_
    exact e_iret dX10_gain_11 rfl ⟨rfl, Nat.le_refl _⟩ ⟨_, rfl, by rw [if_neg (by omega)], Fr.rf⟩

set_option maxHeartbeats 4000000 in
set_option maxRecDepth 100000 in
theorem s_hand {X : AX} {d : Nat} {σ : SG} (ho : ScOK σ 1) (g w : Int) (hg : rg g) (hw : rg w) (hV : (0 ≤ g ∧ g < σ.1 1 6) → (0 ≤ w ∧ w < σ.1 1 7) → ∀ x y z, PvS (σ.1 6 (g * 3 + w)) x y z → -1000000 ≤ ptM σ g w x y z ∧ ptM σ g w x y z ≤ 1000000) (hb : ∀ g, (0 ≤ g ∧ g < σ.1 1 6) → 0 ≤ bfS σ 1 g ∧ bfS σ 1 g ≤ 1000000) : Ev X 0 0 (d + 6) mX10_hand 0 [some (rv 0), some (iv g), some (iv w), none] [] σ (QI (fun r σ' => (if (0 ≤ g ∧ g < σ.1 1 6) ∧ (0 ≤ w ∧ w < σ.1 1 7) then (∃ m : Int → Int, PtI (ptM σ g w) (σ.1 6 (g * 3 + w)) m (fun _ _ _ => True) ∧ r = (if 999 < max (max (max 0 (m 2)) ((m 3 + 1) / 2)) ((m 4 + 2) / 3) then -1 else max (max (max 0 (m 2)) ((m 3 + 1) / 2)) ((m 4 + 2) / 3))) else r = -2) ∧ Fr [37, 38, 39, 40, 41, 42, 53, 54] σ σ')) := by
  obtain ⟨hg1, hg2⟩ := hg
  obtain ⟨hw1, hw2⟩ := hw
  have h6 := ho.1
  have h7 := ho.2.1
  refine e_aload_n (pc' := 1) dX10_hand_0 rfl rfl ?_
  refine e_iload_n (pc' := 2) dX10_hand_1 rfl rfl ?_
  refine e_iload_n (pc' := 3) dX10_hand_2 rfl rfl ?_
  refine e_cv2i (pc' := 6) dX10_hand_3 rfl k_10_107 h_0 rfl (Nat.le_of_ble_eq_true rfl) rfl rfl ⟨rfl, rfl⟩ ⟨Nat.zero_le _, Nat.zero_le _⟩ (s_isPair g w ⟨by omega, by omega⟩ ⟨by omega, by omega⟩ ho.1 ho.2.1) ?_
  intro r σ' hr; rw [hr.1, hr.2]; clear hr
  refine e_ifI (pc' := 9) (t := 12) dX10_hand_6 (by decide) rfl ⟨by first | omega | (split <;> omega), by first | omega | (split <;> omega)⟩ (fun (c2_1 : ((if (0 ≤ g ∧ g < σ.1 1 6) ∧ (0 ≤ w ∧ w < σ.1 1 7) then 1 else 0) : Int) ≠ 0) => ?_) (fun (c2_1 : ¬ (((if (0 ≤ g ∧ g < σ.1 1 6) ∧ (0 ≤ w ∧ w < σ.1 1 7) then 1 else 0) : Int) ≠ 0)) => ?_)
  · have c2_1n : (0 ≤ g ∧ g < σ.1 1 6) ∧ (0 ≤ w ∧ w < σ.1 1 7) := Classical.byContradiction (fun q => absurd (if_neg q : (if (0 ≤ g ∧ g < σ.1 1 6) ∧ (0 ≤ w ∧ w < σ.1 1 7) then (1 : Int) else 0) = 0) (by have := c2_1; omega))
    refine e_aload_n (pc' := 13) dX10_hand_12 rfl rfl ?_
    refine e_getR (pc' := 16) dX10_hand_13 rfl f_10_78 h_0 rfl ?_
    refine e_aload_n (pc' := 17) dX10_hand_16 rfl rfl ?_
    refine e_getR (pc' := 20) dX10_hand_17 rfl f_10_10 h_0 rfl ?_
    refine e_iload_n (pc' := 21) dX10_hand_20 rfl rfl ?_
    refine e_iload_n (pc' := 22) dX10_hand_21 rfl rfl ?_
    refine e_cv3v (pc' := 25) dX10_hand_22 rfl k_10_213 h_53 rfl (Nat.le_of_ble_eq_true rfl) rfl rfl ⟨rfl, rfl⟩ ⟨Nat.zero_le _, Nat.zero_le _⟩ (s_weighAll ho g w (by omega) (by omega) (hV ⟨by omega, by omega⟩ ⟨by omega, by omega⟩) (hb g ⟨by omega, by omega⟩)) ?_
    intro τ1 hI1
    have hmr := hI1.2.1
    have m2 := hmr 2 (by decide) (by decide)
    have m3 := hmr 3 (by decide) (by decide)
    have m4 := hmr 4 (by decide) (by decide)
    refine e_aload_n (pc' := 26) dX10_hand_25 rfl rfl ?_
    refine e_getR (pc' := 29) dX10_hand_26 rfl f_10_78 h_0 rfl ?_
    refine e_cv0i (pc' := 32) dX10_hand_29 rfl k_10_220 h_53 rfl (Nat.le_of_ble_eq_true rfl) rfl rfl ⟨rfl, rfl⟩ ⟨Nat.zero_le _, Nat.zero_le _⟩ (s_leastCost hmr) ?_
    intro r σ' hr; rw [hr.1, hr.2]; clear hr σ'
    refine e_istore_n (pc' := 33) (L' := [some (rv 0), some (iv g), some (iv w), some (iv (max (max (max 0 (τ1.1 54 2)) ((τ1.1 54 3 + 1) / 2)) ((τ1.1 54 4 + 2) / 3)))]) dX10_hand_32 rfl (by decide) rfl ?_
    refine e_iload_n (pc' := 34) dX10_hand_33 rfl rfl ?_
    refine e_sipush (pc' := 37) (z := 999) dX10_hand_34 rfl (by decide) ?_
    refine e_icmpI (pc' := 40) (t := 44) dX10_hand_37 (by decide) rfl ⟨by first | omega | (split <;> omega), by first | omega | (split <;> omega)⟩ ⟨by omega, by omega⟩ (fun (c4_2 : ((max (max (max 0 (τ1.1 54 2)) ((τ1.1 54 3 + 1) / 2)) ((τ1.1 54 4 + 2) / 3)) : Int) ≤ 999) => ?_) (fun (c4_2 : ¬ (((max (max (max 0 (τ1.1 54 2)) ((τ1.1 54 3 + 1) / 2)) ((τ1.1 54 4 + 2) / 3)) : Int) ≤ 999)) => ?_)
    · refine e_iload_n (pc' := 45) dX10_hand_44 rfl rfl ?_
      exact e_iret dX10_hand_45 rfl ⟨rfl, Nat.le_refl _⟩ ⟨_, rfl, by rw [if_pos (by omega)]; exact ⟨τ1.1 54, hI1.2.2, by first | rfl | rw [if_pos (by omega)] | rw [if_neg (by omega)]⟩, hI1.1.2.2.2⟩
    · refine e_iconst (pc' := 41) dX10_hand_40 rfl ?_
      refine e_goto (pc' := 45) dX10_hand_41 (by decide) ?_
      exact e_iret dX10_hand_45 rfl ⟨rfl, Nat.le_refl _⟩ ⟨_, rfl, by rw [if_pos (by omega)]; exact ⟨τ1.1 54, hI1.2.2, by first | rfl | rw [if_pos (by omega)] | rw [if_neg (by omega)]⟩, hI1.1.2.2.2⟩
  · have c2_1n : ¬ ((0 ≤ g ∧ g < σ.1 1 6) ∧ (0 ≤ w ∧ w < σ.1 1 7)) := fun q => absurd (if_pos q : (if (0 ≤ g ∧ g < σ.1 1 6) ∧ (0 ≤ w ∧ w < σ.1 1 7) then (1 : Int) else 0) = 1) (by have := c2_1; omega)
    refine e_bipush (pc' := 11) (z := (-2)) dX10_hand_9 rfl (by decide) ?_
    exact e_iret dX10_hand_11 rfl ⟨rfl, Nat.le_refl _⟩ ⟨_, rfl, by rw [if_neg (by omega)], Fr.rf⟩
