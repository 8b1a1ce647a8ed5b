/-! the reference: roots, hands, what a rule adds -/
theorem i64_le {a b : Int} (ha : -1000000000000000000 ≤ a ∧ a ≤ 1000000000000000000) (hb : -1000000000000000000 ≤ b ∧ b ≤ 1000000000000000000) : Int64.ofInt a ≤ Int64.ofInt b ↔ a ≤ b := by
  rw [Int64.le_iff_toInt_le, Int64.toInt_ofInt_of_le (by omega) (by omega), Int64.toInt_ofInt_of_le (by omega) (by omega)]
theorem i64_lt {a b : Int} (ha : -1000000000000000000 ≤ a ∧ a ≤ 1000000000000000000) (hb : -1000000000000000000 ≤ b ∧ b ≤ 1000000000000000000) : Int64.ofInt a < Int64.ofInt b ↔ a < b := by
  rw [Int64.lt_iff_toInt_lt, Int64.toInt_ofInt_of_le (by omega) (by omega), Int64.toInt_ofInt_of_le (by omega) (by omega)]
theorem i64_eq {a b : Int} (ha : -1000000000000000000 ≤ a ∧ a ≤ 1000000000000000000) (hb : -1000000000000000000 ≤ b ∧ b ≤ 1000000000000000000) : Int64.ofInt a = Int64.ofInt b ↔ a = b := by
  rw [← Int64.toInt_inj, Int64.toInt_ofInt_of_le (by omega) (by omega), Int64.toInt_ofInt_of_le (by omega) (by omega)]
theorem i64_half {a b : Int} (ha : 0 ≤ a ∧ a ≤ 10000000) (hb : 0 ≤ b ∧ b ≤ 10000000) : (Int64.ofInt a + Int64.ofInt b) / 2 = Int64.ofInt ((a + b) / 2) := by
  rw [← Int64.ofInt_add]
  apply Int64.toInt_inj.mp
  rw [Int64.toInt_div_of_ne_right _ _ (by decide), Int64.toInt_ofInt_of_le (by omega) (by omega), Int64.toInt_ofInt_of_le (by omega) (by omega)]
  show (a + b).tdiv 2 = (a + b) / 2
  rw [Int.tdiv_eq_ediv_of_nonneg (by omega)]
theorem root_sq {c : Int} (h1 : 1 ≤ c) (h2 : c ≤ 12) : 1000000 ≤ rootZ c ∧ rootZ c < 4000000 ∧ rootZ c * rootZ c ≤ c * 1000000000000 ∧ c * 1000000000000 < (rootZ c + 1) * (rootZ c + 1) := by
  have h : c = 1 ∨ c = 2 ∨ c = 3 ∨ c = 4 ∨ c = 5 ∨ c = 6 ∨ c = 7 ∨ c = 8 ∨ c = 9 ∨ c = 10 ∨ c = 11 ∨ c = 12 := by omega
  rcases h with rfl | rfl | rfl | rfl | rfl | rfl | rfl | rfl | rfl | rfl | rfl | rfl <;> decide
theorem sq_le {a b : Int} (ha : 0 ≤ a) (h : a ≤ b) : a * a ≤ b * b := Int.mul_le_mul h h ha (by omega)
theorem half_iff {c h : Int} (h1 : 1 ≤ c) (h2 : c ≤ 12) (hh : 0 ≤ h) : h * h ≤ c * 1000000000000 ↔ h ≤ rootZ c := by
  have r := root_sq h1 h2
  constructor
  · intro q
    by_cases hc : h ≤ rootZ c
    · exact hc
    · have := sq_le (a := rootZ c + 1) (b := h) (by omega) (by omega)
      omega
  · intro q
    have := sq_le hh q
    omega
def RtI (σ : SG) : Prop := ∀ c, 1 ≤ c → c ≤ 12 → σ.2 96 c = 0 ∨ σ.2 96 c = Int64.ofInt (rootZ c)
theorem RtI.fr {σ σ' : SG} (h : RtI σ) (e : σ'.2 96 = σ.2 96) : RtI σ' := by
  unfold RtI
  rw [e]
  exact h

set_option maxHeartbeats 4000000 in
set_option maxRecDepth 100000 in
theorem l_rootOf {X : AX} {d : Nat} {σ : SG} (c : Int) (hc : 1 ≤ c ∧ c ≤ 12) (hR : RtI σ) : ∀ (k : Nat) (lo hi : Int) (low high : Int64) (x6 : Option AV), low = Int64.ofInt lo → high = Int64.ofInt hi → 1000000 ≤ lo → lo < hi → hi ≤ 4000000 → lo ≤ rootZ c → rootZ c < hi → hi - lo < k → Ev X 0 0 d mX11_rootOf 24 [some (rv 88), some (iv c), some (jv low), none, some (jv high), none, x6, none] [] σ (QJ (fun r σ' => r = Int64.ofInt (rootZ c) ∧ RtI σ' ∧ Fr [96] σ σ')) := by
  intro k
  induction k with
  | zero => intros; omega
  | succ k ih =>
  intro lo hi low high x6 hlow hhigh h1 h2 h3 h4 h5 hk
  refine e_lload_n (pc' := 25) dX11_rootOf_24 rfl rfl ?_
  refine e_lconst (pc' := 26) (z := 1) dX11_rootOf_25 rfl rfl ?_
  refine e_ladd (pc' := 27) dX11_rootOf_26 rfl ?_
  refine e_lload (pc' := 29) dX11_rootOf_27 rfl rfl ?_
  refine e_lcmp (pc' := 30) dX11_rootOf_29 rfl ?_
  refine e_ifJ (pc' := 33) (t := 75) dX11_rootOf_30 (by decide) rfl (fun (c2_1 : high ≤ ((low + 1) : Int64)) => ?_) (fun (c2_1 : ¬ (high ≤ ((low + 1) : Int64))) => ?_)
  · simp only [hlow, hhigh] at c2_1
    rw [show (1 : Int64) = Int64.ofInt 1 by decide, ← Int64.ofInt_add, i64_le ⟨by omega, by omega⟩ ⟨by omega, by omega⟩] at c2_1
    refine e_aload_n (pc' := 76) dX11_rootOf_75 rfl rfl ?_
    refine e_getR (pc' := 79) dX11_rootOf_76 rfl f_11_33 h_88 rfl ?_
    refine e_iload_n (pc' := 80) dX11_rootOf_79 rfl rfl ?_
    refine e_lload_n (pc' := 81) dX11_rootOf_80 rfl rfl ?_
    refine e_last (pc' := 82) dX11_rootOf_81 rfl h_96 (by decide) (by omega) (by omega) ?_
    refine e_aload_n (pc' := 83) dX11_rootOf_82 rfl rfl ?_
    refine e_getR (pc' := 86) dX11_rootOf_83 rfl f_11_33 h_88 rfl ?_
    refine e_iload_n (pc' := 87) dX11_rootOf_86 rfl rfl ?_
    refine e_lald (pc' := 88) (v := ((upJ σ 96 c low).2 96 c)) dX11_rootOf_87 rfl h_96 (by decide) (by omega) (by omega) rfl ?_
    exact e_lret dX11_rootOf_88 rfl ⟨rfl, Nat.le_refl _⟩ (by
    have e : lo = rootZ c := by omega
    subst e
    refine ⟨_, rfl, (if_pos ⟨rfl, rfl⟩ : (upJ σ 96 c low).2 96 c = low).trans hlow, ?_, fr_J Fr.rf (by decide)⟩
    intro j a b
    by_cases hj : j = c
    · right
      rw [hj]
      exact (if_pos ⟨rfl, rfl⟩ : (upJ σ 96 c low).2 96 c = low).trans hlow
    · have e2 : (upJ σ 96 c low).2 96 j = σ.2 96 j := if_neg (fun q => hj q.2)
      rw [e2]
      exact hR j a b)
  · simp only [hlow, hhigh] at c2_1
    rw [show (1 : Int64) = Int64.ofInt 1 by decide, ← Int64.ofInt_add, i64_le ⟨by omega, by omega⟩ ⟨by omega, by omega⟩] at c2_1
    refine e_lload_n (pc' := 34) dX11_rootOf_33 rfl rfl ?_
    refine e_lload (pc' := 36) dX11_rootOf_34 rfl rfl ?_
    refine e_ladd (pc' := 37) dX11_rootOf_36 rfl ?_
    refine e_ldc2 (pc' := 40) dX11_rootOf_37 rfl c_11_106 ?_
    refine e_ldiv (pc' := 41) dX11_rootOf_40 rfl (by decide) ?_
    refine e_lstore (pc' := 43) (L' := [some (rv 88), some (iv c), some (jv low), none, some (jv high), none, some (jv ((low + high) / 2)), none]) dX11_rootOf_41 rfl (by decide) rfl ?_
    refine e_lload (pc' := 45) dX11_rootOf_43 rfl rfl ?_
    refine e_lload (pc' := 47) dX11_rootOf_45 rfl rfl ?_
    refine e_lmul (pc' := 48) dX11_rootOf_47 rfl ?_
    refine e_iload_n (pc' := 49) dX11_rootOf_48 rfl rfl ?_
    refine e_i2l (pc' := 50) dX11_rootOf_49 rfl ⟨by omega, by omega⟩ ?_
    refine e_ldc2 (pc' := 53) dX11_rootOf_50 rfl c_11_173 ?_
    refine e_lmul (pc' := 54) dX11_rootOf_53 rfl ?_
    refine e_ldc2 (pc' := 57) dX11_rootOf_54 rfl c_11_173 ?_
    refine e_lmul (pc' := 58) dX11_rootOf_57 rfl ?_
    refine e_lcmp (pc' := 59) dX11_rootOf_58 rfl ?_
    refine e_ifJ (pc' := 62) (t := 68) dX11_rootOf_59 (by decide) rfl (fun (c4_2 : (((Int64.ofInt c) * 1000000) * 1000000) < ((((low + high) / 2) * ((low + high) / 2)) : Int64)) => ?_) (fun (c4_2 : ¬ ((((Int64.ofInt c) * 1000000) * 1000000) < ((((low + high) / 2) * ((low + high) / 2)) : Int64))) => ?_)
    · simp only [hlow, hhigh] at c4_2
      rw [i64_half ⟨by omega, by omega⟩ ⟨by omega, by omega⟩, show (1000000 : Int64) = Int64.ofInt 1000000 by decide, ← Int64.ofInt_mul, ← Int64.ofInt_mul, ← Int64.ofInt_mul, i64_lt ⟨by omega, by omega⟩ ⟨by have := sq_le (a := (lo + hi) / 2) (b := 4000000) (by omega) (by omega); have := Int.mul_nonneg (a := (lo + hi) / 2) (b := (lo + hi) / 2) (by omega) (by omega); omega, by have := sq_le (a := (lo + hi) / 2) (b := 4000000) (by omega) (by omega); omega⟩] at c4_2
      have hiff := half_iff (c := c) (h := (lo + hi) / 2) hc.1 hc.2 (by omega)
      refine e_lload (pc' := 70) dX11_rootOf_68 rfl rfl ?_
      refine e_lstore (pc' := 72) (L' := [some (rv 88), some (iv c), some (jv low), none, some (jv ((low + high) / 2)), none, some (jv ((low + high) / 2)), none]) dX11_rootOf_70 rfl (by decide) rfl ?_
      refine e_goto (pc' := 24) dX11_rootOf_72 (by decide) ?_
      exact ih lo ((lo + hi) / 2) _ _ _ hlow (by rw [hlow, hhigh]; exact i64_half ⟨by omega, by omega⟩ ⟨by omega, by omega⟩) (by omega) (by omega) (by omega) (by omega) (by omega) (by omega)
    · simp only [hlow, hhigh] at c4_2
      rw [i64_half ⟨by omega, by omega⟩ ⟨by omega, by omega⟩, show (1000000 : Int64) = Int64.ofInt 1000000 by decide, ← Int64.ofInt_mul, ← Int64.ofInt_mul, ← Int64.ofInt_mul, i64_lt ⟨by omega, by omega⟩ ⟨by have := sq_le (a := (lo + hi) / 2) (b := 4000000) (by omega) (by omega); have := Int.mul_nonneg (a := (lo + hi) / 2) (b := (lo + hi) / 2) (by omega) (by omega); omega, by have := sq_le (a := (lo + hi) / 2) (b := 4000000) (by omega) (by omega); omega⟩] at c4_2
      have hiff := half_iff (c := c) (h := (lo + hi) / 2) hc.1 hc.2 (by omega)
      refine e_lload (pc' := 64) dX11_rootOf_62 rfl rfl ?_
      refine e_lstore_n (pc' := 65) (L' := [some (rv 88), some (iv c), some (jv ((low + high) / 2)), none, some (jv high), none, some (jv ((low + high) / 2)), none]) dX11_rootOf_64 rfl (by decide) rfl ?_
      refine e_goto (pc' := 72) dX11_rootOf_65 (by decide) ?_
      refine e_goto (pc' := 24) dX11_rootOf_72 (by decide) ?_
      exact ih ((lo + hi) / 2) hi _ _ _ (by rw [hlow, hhigh]; exact i64_half ⟨by omega, by omega⟩ ⟨by omega, by omega⟩) hhigh (by omega) (by omega) (by omega) (by omega) (by omega) (by omega)

set_option maxHeartbeats 4000000 in
set_option maxRecDepth 100000 in
theorem s_m_rootOf {X : AX} {d : Nat} {σ : SG} (c : Int) (hc : 1 ≤ c ∧ c ≤ 12) (hR : RtI σ) : Ev X 0 0 d mX11_rootOf 0 [some (rv 88), some (iv c), none, none, none, none, none, none] [] σ (QJ (fun r σ' => r = Int64.ofInt (rootZ c) ∧ RtI σ' ∧ Fr [96] σ σ')) := by
  refine e_iload_n (pc' := 1) dX11_rootOf_0 rfl rfl ?_
  refine e_ifI (pc' := 4) (t := 82) dX11_rootOf_1 (by decide) rfl ⟨by omega, by omega⟩ (fun (c2_1 : (c : Int) ≤ 0) => absurd c2_1 (show ¬ c ≤ 0 by omega)) (fun (c2_1 : ¬ ((c : Int) ≤ 0)) => ?_)
  refine e_aload_n (pc' := 5) dX11_rootOf_4 rfl rfl ?_
  refine e_getR (pc' := 8) dX11_rootOf_5 rfl f_11_33 h_88 rfl ?_
  refine e_iload_n (pc' := 9) dX11_rootOf_8 rfl rfl ?_
  refine e_lald (pc' := 10) (v := (σ.2 96 c)) dX11_rootOf_9 rfl h_96 (by decide) (by omega) (by omega) rfl ?_
  refine e_lconst (pc' := 11) (z := 0) dX11_rootOf_10 rfl rfl ?_
  refine e_lcmp (pc' := 12) dX11_rootOf_11 rfl ?_
  refine e_ifJ (pc' := 15) (t := 82) dX11_rootOf_12 (by decide) rfl (fun (c2_2 : ((σ.2 96 c) : Int64) ≠ 0) => ?_) (fun (c2_2 : ¬ (((σ.2 96 c) : Int64) ≠ 0)) => ?_)
  · refine e_aload_n (pc' := 83) dX11_rootOf_82 rfl rfl ?_
    refine e_getR (pc' := 86) dX11_rootOf_83 rfl f_11_33 h_88 rfl ?_
    refine e_iload_n (pc' := 87) dX11_rootOf_86 rfl rfl ?_
    refine e_lald (pc' := 88) (v := (σ.2 96 c)) dX11_rootOf_87 rfl h_96 (by decide) (by omega) (by omega) rfl ?_
    exact e_lret dX11_rootOf_88 rfl ⟨rfl, Nat.le_refl _⟩ ⟨_, rfl, by rcases hR c hc.1 hc.2 with h | h <;> first | exact h | exact absurd h (by assumption), hR, Fr.rf⟩
  · refine e_ldc2 (pc' := 18) dX11_rootOf_15 rfl c_11_173 ?_
    refine e_lstore_n (pc' := 19) (L' := [some (rv 88), some (iv c), some (jv 1000000), none, none, none, none, none]) dX11_rootOf_18 rfl (by decide) rfl ?_
    refine e_ldc2 (pc' := 22) dX11_rootOf_19 rfl c_11_175 ?_
    refine e_lstore (pc' := 24) (L' := [some (rv 88), some (iv c), some (jv 1000000), none, some (jv 4000000), none, none, none]) dX11_rootOf_22 rfl (by decide) rfl ?_
    have hq := root_sq hc.1 hc.2
    exact l_rootOf c hc hR 3000001 1000000 4000000 _ _ _ (by decide) (by decide) (by decide) (by decide) (by decide) hq.1 hq.2.1 (by decide)

def hdS (f : Int → Int) : Nat → ST
  | 0 => st0
  | n + 1 => seeS (hdS f n) (f n)
theorem hdS_cg {f g : Int → Int} : ∀ n : Nat, (∀ k : Int, 0 ≤ k → k < (n : Int) → f k = g k) → hdS f n = hdS g n
  | 0, _ => rfl
  | n + 1, h => by
    show seeS (hdS f n) (f n) = seeS (hdS g n) (g n)
    rw [hdS_cg n (fun k a b => h k a (by omega)), h n (by omega) (by omega)]
theorem hdS_ok (f : Int → Int) : ∀ n : Nat, stOK (hdS f n)
  | 0 => st0_ok
  | n + 1 => seeS_ok (hdS_ok f n) _
theorem hdS_rg (f : Int → Int) : ∀ n : Nat, 0 ≤ (hdS f n).1 ∧ (hdS f n).1 ≤ 12 * n ∧ 0 ≤ (hdS f n).2.1 ∧ (hdS f n).2.1 ≤ n
  | 0 => ⟨Int.le_refl _, by show (0 : Int) ≤ 12 * 0; decide, Int.le_refl _, Int.le_refl _⟩
  | n + 1 => seeS_rg (hdS_rg f n) _
def HdI (σ : SG) (m : Nat) (t : ST) : Prop := σ.1 88 13 = (m : Int) ∧ (∀ k, 0 ≤ k → k < (m : Int) → 0 ≤ σ.1 95 k ∧ σ.1 95 k ≤ 12) ∧ hdS (σ.1 95) m = t
/-- the frame of what is added: fields 18, 19, 20 of the reference stay -/
def KA (σ σ' : SG) : Prop := σ'.1 88 18 = σ.1 88 18 ∧ σ'.1 88 19 = σ.1 88 19 ∧ σ'.1 88 20 = σ.1 88 20
theorem KA.rf {σ : SG} : KA σ σ := ⟨rfl, rfl, rfl⟩
theorem KA.tr {a b c : SG} (h1 : KA a b) (h2 : KA b c) : KA a c := ⟨h2.1.trans h1.1, h2.2.1.trans h1.2.1, h2.2.2.trans h1.2.2⟩

set_option maxHeartbeats 4000000 in
set_option maxRecDepth 100000 in
theorem s_m_putHand {X : AX} {d : Nat} {σ : SG} (m : Nat) (t : ST) (hm : m ≤ 15) (hH : HdI σ m t) (c : Int) (hc : 0 ≤ c ∧ c ≤ 12) : Ev X 0 0 d mX11_putHand 0 [some (rv 88), some (iv c)] [] σ (QV (fun σ' => HdI σ' (m + 1) (seeS t c) ∧ Fr [88, 95] σ σ' ∧ KA σ σ')) := by
  refine e_aload_n (pc' := 1) dX11_putHand_0 rfl rfl ?_
  refine e_getR (pc' := 4) dX11_putHand_1 rfl f_11_30 h_88 rfl ?_
  refine e_aload_n (pc' := 5) dX11_putHand_4 rfl rfl ?_
  refine e_getI (pc' := 8) (v := (m : Int)) dX11_putHand_5 rfl f_11_177 h_88 rfl hH.1 ?_
  refine e_iload_n (pc' := 9) dX11_putHand_8 rfl rfl ?_
  refine e_iast (pc' := 10) dX11_putHand_9 rfl h_95 (by decide) (by omega) (by omega) ?_
  refine e_aload_n (pc' := 11) dX11_putHand_10 rfl rfl ?_
  refine e_dup (pc' := 12) dX11_putHand_11 rfl rfl ?_
  refine e_getI (pc' := 15) (v := (m : Int)) dX11_putHand_12 rfl f_11_177 h_88 rfl hH.1 ?_
  refine e_iconst (pc' := 16) dX11_putHand_15 rfl ?_
  refine e_iadd (pc' := 17) dX11_putHand_16 rfl ?_
  refine e_putI (pc' := 20) dX11_putHand_17 rfl f_11_177 h_88 rfl rfl rfl ?_
  exact e_vret dX11_putHand_20 rfl ⟨rfl, Nat.le_refl _⟩ (by
    have e : ∀ k : Int, (upI σ 95 (m : Int) c).1 95 k = if k = (m : Int) then c else σ.1 95 k := fun k => by simp only [upI, true_and]
    refine ⟨rfl, ⟨by show (m : Int) + 1 = _; omega, ?_, ?_⟩, (by repeat (first | exact Fr.rf | assumption | (refine fr_I ?_ (by decide)) | (refine fr_J ?_ (by decide)) | (refine fr_C ?_ (by decide)))), ⟨rfl, rfl, rfl⟩⟩
    · intro k a b
      show 0 ≤ (upI σ 95 (m : Int) c).1 95 k ∧ (upI σ 95 (m : Int) c).1 95 k ≤ 12
      rw [e k]
      split
      · exact hc
      · exact hH.2.1 k a (by omega)
    · show seeS (hdS ((upI σ 95 (m : Int) c).1 95) m) ((upI σ 95 (m : Int) c).1 95 m) = _
      rw [e, if_pos rfl, hdS_cg m (g := σ.1 95) (fun k a b => by rw [e k, if_neg (by omega)]), hH.2.2])

theorem clM0 (v : Int64) : (if v < 0 then (0 : Int64) else if 99 < v then 99 else v) = (if (if v < 99 then v else 99) < 0 then (0 : Int64) else (if v < 99 then v else 99)) := by
  have h0 : (0 : Int64).toInt = 0 := by decide
  have h9 : (99 : Int64).toInt = 99 := by decide
  by_cases a : v < 0
  · have a' := Int64.lt_iff_toInt_lt.mp a
    have b : v < 99 := Int64.lt_iff_toInt_lt.mpr (by omega)
    rw [if_pos a, if_pos b, if_pos a]
  · rw [if_neg a]
    by_cases b : v < 99
    · have b' := Int64.lt_iff_toInt_lt.mp b
      have c : ¬ 99 < v := fun q => by have := Int64.lt_iff_toInt_lt.mp q; omega
      rw [if_pos b, if_neg a, if_neg c]
    · rw [if_neg b, if_neg (show ¬ (99 : Int64) < 0 by decide)]
      by_cases c : 99 < v
      · rw [if_pos c]
      · rw [if_neg c]
        apply Int64.toInt_inj.mp
        have c1 : ¬ (99 : Int64).toInt < v.toInt := fun q => c (Int64.lt_iff_toInt_lt.mpr q)
        have b1 : ¬ v.toInt < (99 : Int64).toInt := fun q => b (Int64.lt_iff_toInt_lt.mpr q)
        omega

theorem clM (v : Int64) : (if 0 ≤ v then (if v ≤ 99 then v else 99) else (0 : Int64)) = (if (if v < 99 then v else 99) < 0 then (0 : Int64) else (if v < 99 then v else 99)) := by
  rw [← clM0]
  have h1 : 0 ≤ v ↔ ¬ v < 0 := by rw [Int64.le_iff_toInt_le, Int64.lt_iff_toInt_lt]; omega
  have h2 : v ≤ 99 ↔ ¬ 99 < v := by rw [Int64.le_iff_toInt_le, Int64.lt_iff_toInt_lt]; omega
  by_cases a : v < 0
  · rw [if_pos a, if_neg (fun q => h1.mp q a)]
  · rw [if_neg a, if_pos (h1.mpr a)]
    by_cases b : 99 < v
    · rw [if_pos b, if_neg (fun q => h2.mp q b)]
    · rw [if_neg b, if_pos (h2.mpr b)]

set_option maxHeartbeats 4000000 in
set_option maxRecDepth 100000 in
theorem l_addedBy1 {X : AX} {d : Nat} {σ : SG} (t : ST) (m : Nat) (hm : m ≤ 16) (hH : HdI σ m t) (hR : RtI σ) (u : Int) (n : Nat) (T : Int → Int) (hu : 0 ≤ u ∧ u ≤ 2) (hn : n ≤ 40) (htn : σ.1 89 (57 + 41 * u) = n) (htx : ∀ k, 0 ≤ k → k < (n : Int) → σ.1 89 (57 + 41 * u + 1 + k) = T k ∧ chr7 (T k)) (τ : SG) (hF : Fr [96] σ τ) (hR1 : RtI τ) (s c mx l r : Int64) (hs : s = Int64.ofInt t.1) (hnn : c = Int64.ofInt t.2.1) (hmm : mx = Int64.ofInt t.2.2.1) (hl : l = Int64.ofInt t.2.2.2.1) (hr : r = t.2.2.2.2) (i : Int) (x13 : Option AV) : Ev X 0 0 (d + 5) mX11_addedBy 114 [some (rv 88), some (iv u), some (jv s), none, some (jv c), none, some (jv mx), none, some (jv l), none, some (jv r), none, some (iv i), x13] [] τ (QI (fun r σ' => r = (if (fnS T n).2.2.2.2.2 = -1 then clS (popV (evL t (fnS T n).1)) else 0) ∧ RtI σ' ∧ Fr [88, 92, 93, 94, 96] σ σ' ∧ K88 σ σ')) := by
  have hK : K88 σ τ := by have e := (hF 88 (by decide)).1; unfold K88; rw [e]; exact ⟨rfl, rfl, rfl, rfl⟩
  refine e_aload_n (pc' := 115) dX11_addedBy_114 rfl rfl ?_
  refine e_getR (pc' := 118) dX11_addedBy_115 rfl f_11_27 h_88 rfl ?_
  refine e_iconst (pc' := 119) dX11_addedBy_118 rfl ?_
  refine e_lload_n (pc' := 120) dX11_addedBy_119 rfl rfl ?_
  refine e_last (pc' := 121) dX11_addedBy_120 rfl h_94 (by decide) (by omega) (by omega) ?_
  refine e_aload_n (pc' := 122) dX11_addedBy_121 rfl rfl ?_
  refine e_getR (pc' := 125) dX11_addedBy_122 rfl f_11_27 h_88 rfl ?_
  refine e_iconst (pc' := 126) dX11_addedBy_125 rfl ?_
  refine e_lload (pc' := 128) dX11_addedBy_126 rfl rfl ?_
  refine e_last (pc' := 129) dX11_addedBy_128 rfl h_94 (by decide) (by omega) (by omega) ?_
  refine e_aload_n (pc' := 130) dX11_addedBy_129 rfl rfl ?_
  refine e_getR (pc' := 133) dX11_addedBy_130 rfl f_11_27 h_88 rfl ?_
  refine e_iconst (pc' := 134) dX11_addedBy_133 rfl ?_
  refine e_lload (pc' := 136) dX11_addedBy_134 rfl rfl ?_
  refine e_last (pc' := 137) dX11_addedBy_136 rfl h_94 (by decide) (by omega) (by omega) ?_
  refine e_aload_n (pc' := 138) dX11_addedBy_137 rfl rfl ?_
  refine e_getR (pc' := 141) dX11_addedBy_138 rfl f_11_27 h_88 rfl ?_
  refine e_iconst (pc' := 142) dX11_addedBy_141 rfl ?_
  refine e_lload (pc' := 144) dX11_addedBy_142 rfl rfl ?_
  refine e_last (pc' := 145) dX11_addedBy_144 rfl h_94 (by decide) (by omega) (by omega) ?_
  refine e_aload_n (pc' := 146) dX11_addedBy_145 rfl rfl ?_
  refine e_getR (pc' := 149) dX11_addedBy_146 rfl f_11_27 h_88 rfl ?_
  refine e_iconst (pc' := 150) dX11_addedBy_149 rfl ?_
  refine e_lload (pc' := 152) dX11_addedBy_150 rfl rfl ?_
  refine e_lload (pc' := 154) dX11_addedBy_152 rfl rfl ?_
  refine e_lmul (pc' := 155) dX11_addedBy_154 rfl ?_
  refine e_ldc2 (pc' := 158) dX11_addedBy_155 rfl c_11_184 ?_
  refine e_ldiv (pc' := 159) dX11_addedBy_158 rfl (by decide) ?_
  refine e_last (pc' := 160) dX11_addedBy_159 rfl h_94 (by decide) (by omega) (by omega) ?_
  refine e_aload_n (pc' := 161) dX11_addedBy_160 rfl rfl ?_
  refine e_iload_n (pc' := 162) dX11_addedBy_161 rfl rfl ?_
  refine e_putI (pc' := 165) dX11_addedBy_162 rfl f_11_113 h_88 rfl rfl rfl ?_
  have hFb : Fr [88, 92, 93, 94, 96] σ (upI (upJ (upJ (upJ (upJ (upJ τ 94 0 s) 94 1 c) 94 2 mx) 94 3 l) 94 4 ((r * r) / 1000000000000)) 88 3 u) := (by repeat (first | exact Fr.rf | (exact hF.mono (by decide)) | (refine fr_I ?_ (by decide)) | (refine fr_J ?_ (by decide)) | (refine fr_C ?_ (by decide))))
  have hKb : K88 σ (upI (upJ (upJ (upJ (upJ (upJ τ 94 0 s) 94 1 c) 94 2 mx) 94 3 l) 94 4 ((r * r) / 1000000000000)) 88 3 u) := hK
  have htn1 : (upI (upJ (upJ (upJ (upJ (upJ τ 94 0 s) 94 1 c) 94 2 mx) 94 3 l) 94 4 ((r * r) / 1000000000000)) 88 3 u).1 89 (57 + 41 * u) = (n : Int) := by
    have q : (upI (upJ (upJ (upJ (upJ (upJ τ 94 0 s) 94 1 c) 94 2 mx) 94 3 l) 94 4 ((r * r) / 1000000000000)) 88 3 u).1 89 = σ.1 89 := (hF 89 (by decide)).1
    rw [q]
    exact htn
  have htx1 : ∀ k, 0 ≤ k → k < (n : Int) → (upI (upJ (upJ (upJ (upJ (upJ τ 94 0 s) 94 1 c) 94 2 mx) 94 3 l) 94 4 ((r * r) / 1000000000000)) 88 3 u).1 89 (57 + 41 * u + 1 + k) = T k ∧ chr7 (T k) := by
    intro k a b
    have q : (upI (upJ (upJ (upJ (upJ (upJ τ 94 0 s) 94 1 c) 94 2 mx) 94 3 l) 94 4 ((r * r) / 1000000000000)) 88 3 u).1 89 = σ.1 89 := (hF 89 (by decide)).1
    rw [q]
    exact htx k a b
  have hN : ∀ i, 0 ≤ i → i < 5 → (upI (upJ (upJ (upJ (upJ (upJ τ 94 0 s) 94 1 c) 94 2 mx) 94 3 l) 94 4 ((r * r) / 1000000000000)) 88 3 u).2 94 i = nmV t i := by
    intro i a b
    have h : i = 0 ∨ i = 1 ∨ i = 2 ∨ i = 3 ∨ i = 4 := by omega
    rcases h with rfl | rfl | rfl | rfl | rfl
    · exact hs
    · exact hnn
    · exact hmm
    · exact hl
    · show r * r / 1000000000000 = _
      rw [hr]
      rfl
  refine e_aload_n (pc' := 166) dX11_addedBy_165 rfl rfl ?_
  refine e_cv0i (pc' := 169) dX11_addedBy_166 rfl k_11_169 h_88 rfl (Nat.le_of_ble_eq_true rfl) rfl rfl ⟨rfl, rfl⟩ ⟨Nat.zero_le _, Nat.zero_le _⟩ (s_m_reads t u n T hu hn rfl htn1 htx1 hN) ?_
  rintro z τ2 ⟨h5, hz, hto, h3, hF2⟩
  have hz01 : 0 ≤ z ∧ z ≤ 1 := by rw [hz]; split <;> decide
  have hFF : Fr [88, 92, 93, 94, 96] σ τ2 := hFb.tr (hF2.1.mono (by decide))
  have hKK : K88 σ τ2 := hKb.tr hF2.2
  refine e_ifI (pc' := 172) (t := 174) dX11_addedBy_169 (by decide) rfl ⟨by omega, by omega⟩ (fun (c2_1 : (z : Int) ≠ 0) => ?_) (fun (c2_1 : ¬ ((z : Int) ≠ 0)) => ?_)
  · have hfl : (fnS T n).2.2.2.2.2 = -1 := by
      apply Classical.byContradiction
      intro q
      rw [if_neg q] at hz
      exact c2_1 hz
    have hto1 := hto hfl
    obtain ⟨w0, hw0⟩ : ∃ w0, w0 = popV (evL t (fnS T n).1) := ⟨_, rfl⟩
    rw [← hw0] at hto1
    refine e_aload_n (pc' := 175) dX11_addedBy_174 rfl rfl ?_
    refine e_getJ (pc' := 178) (v := w0) dX11_addedBy_175 rfl f_11_165 h_88 rfl hto1 ?_
    refine e_lconst (pc' := 179) (z := 0) dX11_addedBy_178 rfl rfl ?_
    refine e_lcmp (pc' := 180) dX11_addedBy_179 rfl ?_
    refine e_ifJ (pc' := 183) (t := 187) dX11_addedBy_180 (by decide) rfl (fun (c4_2 : 0 ≤ (w0 : Int64)) => ?_) (fun (c4_2 : ¬ (0 ≤ (w0 : Int64))) => ?_)
    · refine e_aload_n (pc' := 188) dX11_addedBy_187 rfl rfl ?_
      refine e_getJ (pc' := 191) (v := w0) dX11_addedBy_188 rfl f_11_165 h_88 rfl hto1 ?_
      refine e_ldc2 (pc' := 194) dX11_addedBy_191 rfl c_11_104 ?_
      refine e_lcmp (pc' := 195) dX11_addedBy_194 rfl ?_
      refine e_ifJ (pc' := 198) (t := 204) dX11_addedBy_195 (by decide) rfl (fun (c6_3 : (w0 : Int64) ≤ 99) => ?_) (fun (c6_3 : ¬ ((w0 : Int64) ≤ 99)) => ?_)
      · refine e_aload_n (pc' := 205) dX11_addedBy_204 rfl rfl ?_
        refine e_getJ (pc' := 208) (v := w0) dX11_addedBy_205 rfl f_11_165 h_88 rfl hto1 ?_
        refine e_l2i (pc' := 209) dX11_addedBy_208 rfl ?_
        exact e_iret dX11_addedBy_209 rfl ⟨rfl, Nat.le_refl _⟩ ⟨_, rfl, by rw [if_pos hfl, ← hw0]; unfold clS; rw [← clM w0]; first | rw [if_pos c4_2, if_pos c6_3] | rw [if_pos c4_2, if_neg c6_3] | rw [if_neg c4_2], (hR1.fr (hF2.1 96 (by decide)).2), hFF, hKK⟩
      · refine e_ldc2 (pc' := 201) dX11_addedBy_198 rfl c_11_104 ?_
        refine e_goto (pc' := 208) dX11_addedBy_201 (by decide) ?_
        refine e_l2i (pc' := 209) dX11_addedBy_208 rfl ?_
        exact e_iret dX11_addedBy_209 rfl ⟨rfl, Nat.le_refl _⟩ ⟨_, rfl, by rw [if_pos hfl, ← hw0]; unfold clS; rw [← clM w0]; first | rw [if_pos c4_2, if_pos c6_3] | rw [if_pos c4_2, if_neg c6_3] | rw [if_neg c4_2], (hR1.fr (hF2.1 96 (by decide)).2), hFF, hKK⟩
    · refine e_lconst (pc' := 184) (z := 0) dX11_addedBy_183 rfl rfl ?_
      refine e_goto (pc' := 208) dX11_addedBy_184 (by decide) ?_
      refine e_l2i (pc' := 209) dX11_addedBy_208 rfl ?_
      exact e_iret dX11_addedBy_209 rfl ⟨rfl, Nat.le_refl _⟩ ⟨_, rfl, by rw [if_pos hfl, ← hw0]; unfold clS; rw [← clM w0]; first | rw [if_pos c4_2, if_pos c6_3] | rw [if_pos c4_2, if_neg c6_3] | rw [if_neg c4_2], (hR1.fr (hF2.1 96 (by decide)).2), hFF, hKK⟩
  · have hfl : ¬ (fnS T n).2.2.2.2.2 = -1 := by
      intro q
      rw [if_pos q] at hz
      omega
    refine e_iconst (pc' := 173) dX11_addedBy_172 rfl ?_
    exact e_iret dX11_addedBy_173 rfl ⟨rfl, Nat.le_refl _⟩ ⟨_, rfl, by rw [if_neg hfl], (hR1.fr (hF2.1 96 (by decide)).2), hFF, hKK⟩

set_option maxHeartbeats 4000000 in
set_option maxRecDepth 100000 in
theorem l_addedBy {X : AX} {d : Nat} {σ : SG} (t : ST) (m : Nat) (hm : m ≤ 16) (hH : HdI σ m t) (hR : RtI σ) (u : Int) (n : Nat) (T : Int → Int) (hu : 0 ≤ u ∧ u ≤ 2) (hn : n ≤ 40) (htn : σ.1 89 (57 + 41 * u) = n) (htx : ∀ k, 0 ≤ k → k < (n : Int) → σ.1 89 (57 + 41 * u + 1 + k) = T k ∧ chr7 (T k)) : ∀ (k j : Nat) (τ : SG) (s c mx l r : Int64) (i : Int) (x13 : Option AV), i = (j : Int) → j ≤ m → m - j < k → Fr [96] σ τ → RtI τ → s = Int64.ofInt (hdS (σ.1 95) j).1 → c = Int64.ofInt (hdS (σ.1 95) j).2.1 → mx = Int64.ofInt (hdS (σ.1 95) j).2.2.1 → l = Int64.ofInt (hdS (σ.1 95) j).2.2.2.1 → r = (hdS (σ.1 95) j).2.2.2.2 → Ev X 0 0 (d + 5) mX11_addedBy 17 [some (rv 88), some (iv u), some (jv s), none, some (jv c), none, some (jv mx), none, some (jv l), none, some (jv r), none, some (iv i), x13] [] τ (QI (fun r σ' => r = (if (fnS T n).2.2.2.2.2 = -1 then clS (popV (evL t (fnS T n).1)) else 0) ∧ RtI σ' ∧ Fr [88, 92, 93, 94, 96] σ σ' ∧ K88 σ σ')) := by
  intro k
  induction k with
  | zero => intros; omega
  | succ k ih =>
  intro j τ s c mx l r i x13 hij hjm hjk hF hR1 hs hnn hmm hl hr
  have h13 : τ.1 88 13 = (m : Int) := by rw [(hF 88 (by decide)).1]; exact hH.1
  have hok := hdS_ok (σ.1 95) j
  unfold stOK at hok
  have hrg := hdS_rg (σ.1 95) j
  refine e_iload (pc' := 19) dX11_addedBy_17 rfl rfl ?_
  refine e_aload_n (pc' := 20) dX11_addedBy_19 rfl rfl ?_
  refine e_getI (pc' := 23) (v := (m : Int)) dX11_addedBy_20 rfl f_11_177 h_88 rfl h13 ?_
  refine e_icmpI (pc' := 26) (t := 114) dX11_addedBy_23 (by decide) rfl ⟨by omega, by omega⟩ ⟨by omega, by omega⟩ (fun (c2_1 : (m : Int) ≤ (i : Int)) => ?_) (fun (c2_1 : ¬ ((m : Int) ≤ (i : Int))) => ?_)
  · have e : j = m := by omega
    subst e
    rw [hH.2.2] at hs hnn hmm hl hr
    exact l_addedBy1 t j hm hH hR u n T hu hn htn htx τ hF hR1 s c mx l r hs hnn hmm hl hr i _
  · obtain ⟨g, hg0⟩ : ∃ g, g = σ.1 95 i := ⟨_, rfl⟩
    have hg1 : τ.1 95 i = g := by rw [(hF 95 (by decide)).1]; exact hg0.symm
    have hgr := hH.2.1 i (by omega) (by omega)
    rw [← hg0] at hgr
    refine e_aload_n (pc' := 27) dX11_addedBy_26 rfl rfl ?_
    refine e_getR (pc' := 30) dX11_addedBy_27 rfl f_11_30 h_88 rfl ?_
    refine e_iload (pc' := 32) dX11_addedBy_30 rfl rfl ?_
    refine e_iald (pc' := 33) (v := g) dX11_addedBy_32 rfl h_95 (by decide) (by omega) (by omega) hg1 ?_
    refine e_istore (pc' := 35) (L' := [some (rv 88), some (iv u), some (jv s), none, some (jv c), none, some (jv mx), none, some (jv l), none, some (jv r), none, some (iv i), some (iv g)]) dX11_addedBy_33 rfl (by decide) rfl ?_
    refine e_iload (pc' := 37) dX11_addedBy_35 rfl rfl ?_
    refine e_ifI (pc' := 40) (t := 108) dX11_addedBy_37 (by decide) rfl ⟨by omega, by omega⟩ (fun (c4_2 : (g : Int) ≤ 0) => ?_) (fun (c4_2 : ¬ ((g : Int) ≤ 0)) => ?_)
    · have hseen : hdS (σ.1 95) (j + 1) = hdS (σ.1 95) j := by
        show seeS (hdS (σ.1 95) j) (σ.1 95 (j : Int)) = _
        rw [show σ.1 95 (j : Int) = g by rw [← hij]; exact hg0.symm]
        exact if_neg (fun q => by omega)
      refine e_iinc (pc' := 111) (L' := [some (rv 88), some (iv u), some (jv s), none, some (jv c), none, some (jv mx), none, some (jv l), none, some (jv r), none, some (iv (i + 1)), some (iv g)]) dX11_addedBy_108 rfl rfl (by decide) rfl ?_
      refine e_goto (pc' := 17) dX11_addedBy_111 (by decide) ?_
      refine ih (j + 1) τ s c mx l r (i + 1) _ (by omega) (by omega) (by omega) hF hR1 ?_ ?_ ?_ ?_ ?_ <;> (rw [hseen]; assumption)
    · refine e_lload_n (pc' := 41) dX11_addedBy_40 rfl rfl ?_
      refine e_iload (pc' := 43) dX11_addedBy_41 rfl rfl ?_
      refine e_i2l (pc' := 44) dX11_addedBy_43 rfl ⟨by omega, by omega⟩ ?_
      refine e_ladd (pc' := 45) dX11_addedBy_44 rfl ?_
      refine e_lstore_n (pc' := 46) (L' := [some (rv 88), some (iv u), some (jv (s + (Int64.ofInt g))), none, some (jv c), none, some (jv mx), none, some (jv l), none, some (jv r), none, some (iv i), some (iv g)]) dX11_addedBy_45 rfl (by decide) rfl ?_
      refine e_lload (pc' := 48) dX11_addedBy_46 rfl rfl ?_
      refine e_lconst (pc' := 49) (z := 1) dX11_addedBy_48 rfl rfl ?_
      refine e_ladd (pc' := 50) dX11_addedBy_49 rfl ?_
      refine e_lstore (pc' := 52) (L' := [some (rv 88), some (iv u), some (jv (s + (Int64.ofInt g))), none, some (jv (c + 1)), none, some (jv mx), none, some (jv l), none, some (jv r), none, some (iv i), some (iv g)]) dX11_addedBy_50 rfl (by decide) rfl ?_
      refine e_iload (pc' := 54) dX11_addedBy_52 rfl rfl ?_
      refine e_i2l (pc' := 55) dX11_addedBy_54 rfl ⟨by omega, by omega⟩ ?_
      refine e_lload (pc' := 57) dX11_addedBy_55 rfl rfl ?_
      refine e_lcmp (pc' := 58) dX11_addedBy_57 rfl ?_
      refine e_ifJ (pc' := 61) (t := 67) dX11_addedBy_58 (by decide) rfl (fun (c6_3 : ((Int64.ofInt g) : Int64) ≤ mx) => ?_) (fun (c6_3 : ¬ (((Int64.ofInt g) : Int64) ≤ mx)) => ?_)
      · rw [hmm, i64_le ⟨by omega, by omega⟩ ⟨by omega, by omega⟩] at c6_3
        refine e_lload (pc' := 69) dX11_addedBy_67 rfl rfl ?_
        refine e_lstore (pc' := 71) (L' := [some (rv 88), some (iv u), some (jv (s + (Int64.ofInt g))), none, some (jv (c + 1)), none, some (jv mx), none, some (jv l), none, some (jv r), none, some (iv i), some (iv g)]) dX11_addedBy_69 rfl (by decide) rfl ?_
        refine e_lload (pc' := 73) dX11_addedBy_71 rfl rfl ?_
        refine e_lconst (pc' := 74) (z := 0) dX11_addedBy_73 rfl rfl ?_
        refine e_lcmp (pc' := 75) dX11_addedBy_74 rfl ?_
        refine e_ifJ (pc' := 78) (t := 87) dX11_addedBy_75 (by decide) rfl (fun (c8_4 : (l : Int64) = 0) => ?_) (fun (c8_4 : ¬ ((l : Int64) = 0)) => ?_)
        · rw [hl, show (0 : Int64) = Int64.ofInt 0 by decide, i64_eq ⟨by omega, by omega⟩ ⟨by omega, by omega⟩] at c8_4
          refine e_iload (pc' := 89) dX11_addedBy_87 rfl rfl ?_
          refine e_i2l (pc' := 90) dX11_addedBy_89 rfl ⟨by omega, by omega⟩ ?_
          refine e_goto (pc' := 95) dX11_addedBy_90 (by decide) ?_
          refine e_lstore (pc' := 97) (L' := [some (rv 88), some (iv u), some (jv (s + (Int64.ofInt g))), none, some (jv (c + 1)), none, some (jv mx), none, some (jv (Int64.ofInt g)), none, some (jv r), none, some (iv i), some (iv g)]) dX11_addedBy_95 rfl (by decide) rfl ?_
          refine e_lload (pc' := 99) dX11_addedBy_97 rfl rfl ?_
          refine e_aload_n (pc' := 100) dX11_addedBy_99 rfl rfl ?_
          refine e_iload (pc' := 102) dX11_addedBy_100 rfl rfl ?_
          refine e_cv1j (pc' := 105) dX11_addedBy_102 rfl k_11_180 h_88 rfl (Nat.le_of_ble_eq_true rfl) rfl rfl ⟨rfl, rfl⟩ ⟨Nat.zero_le _, Nat.zero_le _⟩ (s_m_rootOf g ⟨by omega, by omega⟩ hR1) ?_
          rintro z τ2 ⟨hz, hR2, hF2⟩
          refine e_ladd (pc' := 106) dX11_addedBy_105 rfl ?_
          refine e_lstore (pc' := 108) (L' := [some (rv 88), some (iv u), some (jv (s + (Int64.ofInt g))), none, some (jv (c + 1)), none, some (jv mx), none, some (jv (Int64.ofInt g)), none, some (jv (r + z)), none, some (iv i), some (iv g)]) dX11_addedBy_106 rfl (by decide) rfl ?_
          refine e_iinc (pc' := 111) (L' := [some (rv 88), some (iv u), some (jv (s + (Int64.ofInt g))), none, some (jv (c + 1)), none, some (jv mx), none, some (jv (Int64.ofInt g)), none, some (jv (r + z)), none, some (iv (i + 1)), some (iv g)]) dX11_addedBy_108 rfl rfl (by decide) rfl ?_
          refine e_goto (pc' := 17) dX11_addedBy_111 (by decide) ?_
          have hm0 := (hdS_ok (σ.1 95) j)
          have hj1 : hdS (σ.1 95) (j + 1) = ((hdS (σ.1 95) j).1 + g, (hdS (σ.1 95) j).2.1 + 1, max (hdS (σ.1 95) j).2.2.1 g, (if (hdS (σ.1 95) j).2.2.2.1 = 0 then g else min (hdS (σ.1 95) j).2.2.2.1 g), (hdS (σ.1 95) j).2.2.2.2 + Int64.ofInt (rootZ g)) := by
            show seeS (hdS (σ.1 95) j) (σ.1 95 (j : Int)) = _
            rw [show σ.1 95 (j : Int) = g by rw [← hij]; exact hg0.symm]
            exact if_pos ⟨by omega, by omega⟩
          refine ih (j + 1) τ2 _ _ _ _ _ (i + 1) _ (by omega) (by omega) (by omega) (hF.tr hF2) hR2 ?_ ?_ ?_ ?_ ?_
          · rw [hj1, hs, Int64.ofInt_add]
          · rw [hj1, hnn, Int64.ofInt_add]; rfl
          · rw [hj1]
            dsimp only
            rw [show max (hdS (σ.1 95) j).2.2.1 g = (hdS (σ.1 95) j).2.2.1 by omega]; exact hmm
          · rw [hj1]
            dsimp only
            (first | rw [if_pos (by omega)] | rw [if_neg (by omega), show min (hdS (σ.1 95) j).2.2.2.1 g = g by omega])
          · rw [hj1, hr, hz]
        · rw [hl, show (0 : Int64) = Int64.ofInt 0 by decide, i64_eq ⟨by omega, by omega⟩ ⟨by omega, by omega⟩] at c8_4
          refine e_iload (pc' := 80) dX11_addedBy_78 rfl rfl ?_
          refine e_i2l (pc' := 81) dX11_addedBy_80 rfl ⟨by omega, by omega⟩ ?_
          refine e_lload (pc' := 83) dX11_addedBy_81 rfl rfl ?_
          refine e_lcmp (pc' := 84) dX11_addedBy_83 rfl ?_
          refine e_ifJ (pc' := 87) (t := 93) dX11_addedBy_84 (by decide) rfl (fun (c10_5 : l ≤ ((Int64.ofInt g) : Int64)) => ?_) (fun (c10_5 : ¬ (l ≤ ((Int64.ofInt g) : Int64))) => ?_)
          · rw [hl, i64_le ⟨by omega, by omega⟩ ⟨by omega, by omega⟩] at c10_5
            refine e_lload (pc' := 95) dX11_addedBy_93 rfl rfl ?_
            refine e_lstore (pc' := 97) (L' := [some (rv 88), some (iv u), some (jv (s + (Int64.ofInt g))), none, some (jv (c + 1)), none, some (jv mx), none, some (jv l), none, some (jv r), none, some (iv i), some (iv g)]) dX11_addedBy_95 rfl (by decide) rfl ?_
            refine e_lload (pc' := 99) dX11_addedBy_97 rfl rfl ?_
            refine e_aload_n (pc' := 100) dX11_addedBy_99 rfl rfl ?_
            refine e_iload (pc' := 102) dX11_addedBy_100 rfl rfl ?_
            refine e_cv1j (pc' := 105) dX11_addedBy_102 rfl k_11_180 h_88 rfl (Nat.le_of_ble_eq_true rfl) rfl rfl ⟨rfl, rfl⟩ ⟨Nat.zero_le _, Nat.zero_le _⟩ (s_m_rootOf g ⟨by omega, by omega⟩ hR1) ?_
            rintro z τ2 ⟨hz, hR2, hF2⟩
            refine e_ladd (pc' := 106) dX11_addedBy_105 rfl ?_
            refine e_lstore (pc' := 108) (L' := [some (rv 88), some (iv u), some (jv (s + (Int64.ofInt g))), none, some (jv (c + 1)), none, some (jv mx), none, some (jv l), none, some (jv (r + z)), none, some (iv i), some (iv g)]) dX11_addedBy_106 rfl (by decide) rfl ?_
            refine e_iinc (pc' := 111) (L' := [some (rv 88), some (iv u), some (jv (s + (Int64.ofInt g))), none, some (jv (c + 1)), none, some (jv mx), none, some (jv l), none, some (jv (r + z)), none, some (iv (i + 1)), some (iv g)]) dX11_addedBy_108 rfl rfl (by decide) rfl ?_
            refine e_goto (pc' := 17) dX11_addedBy_111 (by decide) ?_
            have hm0 := (hdS_ok (σ.1 95) j)
            have hj1 : hdS (σ.1 95) (j + 1) = ((hdS (σ.1 95) j).1 + g, (hdS (σ.1 95) j).2.1 + 1, max (hdS (σ.1 95) j).2.2.1 g, (if (hdS (σ.1 95) j).2.2.2.1 = 0 then g else min (hdS (σ.1 95) j).2.2.2.1 g), (hdS (σ.1 95) j).2.2.2.2 + Int64.ofInt (rootZ g)) := by
              show seeS (hdS (σ.1 95) j) (σ.1 95 (j : Int)) = _
              rw [show σ.1 95 (j : Int) = g by rw [← hij]; exact hg0.symm]
              exact if_pos ⟨by omega, by omega⟩
            refine ih (j + 1) τ2 _ _ _ _ _ (i + 1) _ (by omega) (by omega) (by omega) (hF.tr hF2) hR2 ?_ ?_ ?_ ?_ ?_
            · rw [hj1, hs, Int64.ofInt_add]
            · rw [hj1, hnn, Int64.ofInt_add]; rfl
            · rw [hj1]
              dsimp only
              rw [show max (hdS (σ.1 95) j).2.2.1 g = (hdS (σ.1 95) j).2.2.1 by omega]; exact hmm
            · rw [hj1]
              dsimp only
              rw [if_neg (by omega), show min (hdS (σ.1 95) j).2.2.2.1 g = (hdS (σ.1 95) j).2.2.2.1 by omega]; exact hl
            · rw [hj1, hr, hz]
          · rw [hl, i64_le ⟨by omega, by omega⟩ ⟨by omega, by omega⟩] at c10_5
            refine e_iload (pc' := 89) dX11_addedBy_87 rfl rfl ?_
            refine e_i2l (pc' := 90) dX11_addedBy_89 rfl ⟨by omega, by omega⟩ ?_
            refine e_goto (pc' := 95) dX11_addedBy_90 (by decide) ?_
            refine e_lstore (pc' := 97) (L' := [some (rv 88), some (iv u), some (jv (s + (Int64.ofInt g))), none, some (jv (c + 1)), none, some (jv mx), none, some (jv (Int64.ofInt g)), none, some (jv r), none, some (iv i), some (iv g)]) dX11_addedBy_95 rfl (by decide) rfl ?_
            refine e_lload (pc' := 99) dX11_addedBy_97 rfl rfl ?_
            refine e_aload_n (pc' := 100) dX11_addedBy_99 rfl rfl ?_
            refine e_iload (pc' := 102) dX11_addedBy_100 rfl rfl ?_
            refine e_cv1j (pc' := 105) dX11_addedBy_102 rfl k_11_180 h_88 rfl (Nat.le_of_ble_eq_true rfl) rfl rfl ⟨rfl, rfl⟩ ⟨Nat.zero_le _, Nat.zero_le _⟩ (s_m_rootOf g ⟨by omega, by omega⟩ hR1) ?_
            rintro z τ2 ⟨hz, hR2, hF2⟩
            refine e_ladd (pc' := 106) dX11_addedBy_105 rfl ?_
            refine e_lstore (pc' := 108) (L' := [some (rv 88), some (iv u), some (jv (s + (Int64.ofInt g))), none, some (jv (c + 1)), none, some (jv mx), none, some (jv (Int64.ofInt g)), none, some (jv (r + z)), none, some (iv i), some (iv g)]) dX11_addedBy_106 rfl (by decide) rfl ?_
            refine e_iinc (pc' := 111) (L' := [some (rv 88), some (iv u), some (jv (s + (Int64.ofInt g))), none, some (jv (c + 1)), none, some (jv mx), none, some (jv (Int64.ofInt g)), none, some (jv (r + z)), none, some (iv (i + 1)), some (iv g)]) dX11_addedBy_108 rfl rfl (by decide) rfl ?_
            refine e_goto (pc' := 17) dX11_addedBy_111 (by decide) ?_
            have hm0 := (hdS_ok (σ.1 95) j)
            have hj1 : hdS (σ.1 95) (j + 1) = ((hdS (σ.1 95) j).1 + g, (hdS (σ.1 95) j).2.1 + 1, max (hdS (σ.1 95) j).2.2.1 g, (if (hdS (σ.1 95) j).2.2.2.1 = 0 then g else min (hdS (σ.1 95) j).2.2.2.1 g), (hdS (σ.1 95) j).2.2.2.2 + Int64.ofInt (rootZ g)) := by
              show seeS (hdS (σ.1 95) j) (σ.1 95 (j : Int)) = _
              rw [show σ.1 95 (j : Int) = g by rw [← hij]; exact hg0.symm]
              exact if_pos ⟨by omega, by omega⟩
            refine ih (j + 1) τ2 _ _ _ _ _ (i + 1) _ (by omega) (by omega) (by omega) (hF.tr hF2) hR2 ?_ ?_ ?_ ?_ ?_
            · rw [hj1, hs, Int64.ofInt_add]
            · rw [hj1, hnn, Int64.ofInt_add]; rfl
            · rw [hj1]
              dsimp only
              rw [show max (hdS (σ.1 95) j).2.2.1 g = (hdS (σ.1 95) j).2.2.1 by omega]; exact hmm
            · rw [hj1]
              dsimp only
              (first | rw [if_pos (by omega)] | rw [if_neg (by omega), show min (hdS (σ.1 95) j).2.2.2.1 g = g by omega])
            · rw [hj1, hr, hz]
      · rw [hmm, i64_le ⟨by omega, by omega⟩ ⟨by omega, by omega⟩] at c6_3
        refine e_iload (pc' := 63) dX11_addedBy_61 rfl rfl ?_
        refine e_i2l (pc' := 64) dX11_addedBy_63 rfl ⟨by omega, by omega⟩ ?_
        refine e_goto (pc' := 69) dX11_addedBy_64 (by decide) ?_
        refine e_lstore (pc' := 71) (L' := [some (rv 88), some (iv u), some (jv (s + (Int64.ofInt g))), none, some (jv (c + 1)), none, some (jv (Int64.ofInt g)), none, some (jv l), none, some (jv r), none, some (iv i), some (iv g)]) dX11_addedBy_69 rfl (by decide) rfl ?_
        refine e_lload (pc' := 73) dX11_addedBy_71 rfl rfl ?_
        refine e_lconst (pc' := 74) (z := 0) dX11_addedBy_73 rfl rfl ?_
        refine e_lcmp (pc' := 75) dX11_addedBy_74 rfl ?_
        refine e_ifJ (pc' := 78) (t := 87) dX11_addedBy_75 (by decide) rfl (fun (c8_4 : (l : Int64) = 0) => ?_) (fun (c8_4 : ¬ ((l : Int64) = 0)) => ?_)
        · rw [hl, show (0 : Int64) = Int64.ofInt 0 by decide, i64_eq ⟨by omega, by omega⟩ ⟨by omega, by omega⟩] at c8_4
          refine e_iload (pc' := 89) dX11_addedBy_87 rfl rfl ?_
          refine e_i2l (pc' := 90) dX11_addedBy_89 rfl ⟨by omega, by omega⟩ ?_
          refine e_goto (pc' := 95) dX11_addedBy_90 (by decide) ?_
          refine e_lstore (pc' := 97) (L' := [some (rv 88), some (iv u), some (jv (s + (Int64.ofInt g))), none, some (jv (c + 1)), none, some (jv (Int64.ofInt g)), none, some (jv (Int64.ofInt g)), none, some (jv r), none, some (iv i), some (iv g)]) dX11_addedBy_95 rfl (by decide) rfl ?_
          refine e_lload (pc' := 99) dX11_addedBy_97 rfl rfl ?_
          refine e_aload_n (pc' := 100) dX11_addedBy_99 rfl rfl ?_
          refine e_iload (pc' := 102) dX11_addedBy_100 rfl rfl ?_
          refine e_cv1j (pc' := 105) dX11_addedBy_102 rfl k_11_180 h_88 rfl (Nat.le_of_ble_eq_true rfl) rfl rfl ⟨rfl, rfl⟩ ⟨Nat.zero_le _, Nat.zero_le _⟩ (s_m_rootOf g ⟨by omega, by omega⟩ hR1) ?_
          rintro z τ2 ⟨hz, hR2, hF2⟩
          refine e_ladd (pc' := 106) dX11_addedBy_105 rfl ?_
          refine e_lstore (pc' := 108) (L' := [some (rv 88), some (iv u), some (jv (s + (Int64.ofInt g))), none, some (jv (c + 1)), none, some (jv (Int64.ofInt g)), none, some (jv (Int64.ofInt g)), none, some (jv (r + z)), none, some (iv i), some (iv g)]) dX11_addedBy_106 rfl (by decide) rfl ?_
          refine e_iinc (pc' := 111) (L' := [some (rv 88), some (iv u), some (jv (s + (Int64.ofInt g))), none, some (jv (c + 1)), none, some (jv (Int64.ofInt g)), none, some (jv (Int64.ofInt g)), none, some (jv (r + z)), none, some (iv (i + 1)), some (iv g)]) dX11_addedBy_108 rfl rfl (by decide) rfl ?_
          refine e_goto (pc' := 17) dX11_addedBy_111 (by decide) ?_
          have hm0 := (hdS_ok (σ.1 95) j)
          have hj1 : hdS (σ.1 95) (j + 1) = ((hdS (σ.1 95) j).1 + g, (hdS (σ.1 95) j).2.1 + 1, max (hdS (σ.1 95) j).2.2.1 g, (if (hdS (σ.1 95) j).2.2.2.1 = 0 then g else min (hdS (σ.1 95) j).2.2.2.1 g), (hdS (σ.1 95) j).2.2.2.2 + Int64.ofInt (rootZ g)) := by
            show seeS (hdS (σ.1 95) j) (σ.1 95 (j : Int)) = _
            rw [show σ.1 95 (j : Int) = g by rw [← hij]; exact hg0.symm]
            exact if_pos ⟨by omega, by omega⟩
          refine ih (j + 1) τ2 _ _ _ _ _ (i + 1) _ (by omega) (by omega) (by omega) (hF.tr hF2) hR2 ?_ ?_ ?_ ?_ ?_
          · rw [hj1, hs, Int64.ofInt_add]
          · rw [hj1, hnn, Int64.ofInt_add]; rfl
          · rw [hj1]
            dsimp only
            rw [show max (hdS (σ.1 95) j).2.2.1 g = g by omega]
          · rw [hj1]
            dsimp only
            (first | rw [if_pos (by omega)] | rw [if_neg (by omega), show min (hdS (σ.1 95) j).2.2.2.1 g = g by omega])
          · rw [hj1, hr, hz]
        · rw [hl, show (0 : Int64) = Int64.ofInt 0 by decide, i64_eq ⟨by omega, by omega⟩ ⟨by omega, by omega⟩] at c8_4
          refine e_iload (pc' := 80) dX11_addedBy_78 rfl rfl ?_
          refine e_i2l (pc' := 81) dX11_addedBy_80 rfl ⟨by omega, by omega⟩ ?_
          refine e_lload (pc' := 83) dX11_addedBy_81 rfl rfl ?_
          refine e_lcmp (pc' := 84) dX11_addedBy_83 rfl ?_
          refine e_ifJ (pc' := 87) (t := 93) dX11_addedBy_84 (by decide) rfl (fun (c10_5 : l ≤ ((Int64.ofInt g) : Int64)) => ?_) (fun (c10_5 : ¬ (l ≤ ((Int64.ofInt g) : Int64))) => ?_)
          · rw [hl, i64_le ⟨by omega, by omega⟩ ⟨by omega, by omega⟩] at c10_5
            refine e_lload (pc' := 95) dX11_addedBy_93 rfl rfl ?_
            refine e_lstore (pc' := 97) (L' := [some (rv 88), some (iv u), some (jv (s + (Int64.ofInt g))), none, some (jv (c + 1)), none, some (jv (Int64.ofInt g)), none, some (jv l), none, some (jv r), none, some (iv i), some (iv g)]) dX11_addedBy_95 rfl (by decide) rfl ?_
            refine e_lload (pc' := 99) dX11_addedBy_97 rfl rfl ?_
            refine e_aload_n (pc' := 100) dX11_addedBy_99 rfl rfl ?_
            refine e_iload (pc' := 102) dX11_addedBy_100 rfl rfl ?_
            refine e_cv1j (pc' := 105) dX11_addedBy_102 rfl k_11_180 h_88 rfl (Nat.le_of_ble_eq_true rfl) rfl rfl ⟨rfl, rfl⟩ ⟨Nat.zero_le _, Nat.zero_le _⟩ (s_m_rootOf g ⟨by omega, by omega⟩ hR1) ?_
            rintro z τ2 ⟨hz, hR2, hF2⟩
            refine e_ladd (pc' := 106) dX11_addedBy_105 rfl ?_
            refine e_lstore (pc' := 108) (L' := [some (rv 88), some (iv u), some (jv (s + (Int64.ofInt g))), none, some (jv (c + 1)), none, some (jv (Int64.ofInt g)), none, some (jv l), none, some (jv (r + z)), none, some (iv i), some (iv g)]) dX11_addedBy_106 rfl (by decide) rfl ?_
            refine e_iinc (pc' := 111) (L' := [some (rv 88), some (iv u), some (jv (s + (Int64.ofInt g))), none, some (jv (c + 1)), none, some (jv (Int64.ofInt g)), none, some (jv l), none, some (jv (r + z)), none, some (iv (i + 1)), some (iv g)]) dX11_addedBy_108 rfl rfl (by decide) rfl ?_
            refine e_goto (pc' := 17) dX11_addedBy_111 (by decide) ?_
            have hm0 := (hdS_ok (σ.1 95) j)
            have hj1 : hdS (σ.1 95) (j + 1) = ((hdS (σ.1 95) j).1 + g, (hdS (σ.1 95) j).2.1 + 1, max (hdS (σ.1 95) j).2.2.1 g, (if (hdS (σ.1 95) j).2.2.2.1 = 0 then g else min (hdS (σ.1 95) j).2.2.2.1 g), (hdS (σ.1 95) j).2.2.2.2 + Int64.ofInt (rootZ g)) := by
              show seeS (hdS (σ.1 95) j) (σ.1 95 (j : Int)) = _
              rw [show σ.1 95 (j : Int) = g by rw [← hij]; exact hg0.symm]
              exact if_pos ⟨by omega, by omega⟩
            refine ih (j + 1) τ2 _ _ _ _ _ (i + 1) _ (by omega) (by omega) (by omega) (hF.tr hF2) hR2 ?_ ?_ ?_ ?_ ?_
            · rw [hj1, hs, Int64.ofInt_add]
            · rw [hj1, hnn, Int64.ofInt_add]; rfl
            · rw [hj1]
              dsimp only
              rw [show max (hdS (σ.1 95) j).2.2.1 g = g by omega]
            · rw [hj1]
              dsimp only
              rw [if_neg (by omega), show min (hdS (σ.1 95) j).2.2.2.1 g = (hdS (σ.1 95) j).2.2.2.1 by omega]; exact hl
            · rw [hj1, hr, hz]
          · rw [hl, i64_le ⟨by omega, by omega⟩ ⟨by omega, by omega⟩] at c10_5
            refine e_iload (pc' := 89) dX11_addedBy_87 rfl rfl ?_
            refine e_i2l (pc' := 90) dX11_addedBy_89 rfl ⟨by omega, by omega⟩ ?_
            refine e_goto (pc' := 95) dX11_addedBy_90 (by decide) ?_
            refine e_lstore (pc' := 97) (L' := [some (rv 88), some (iv u), some (jv (s + (Int64.ofInt g))), none, some (jv (c + 1)), none, some (jv (Int64.ofInt g)), none, some (jv (Int64.ofInt g)), none, some (jv r), none, some (iv i), some (iv g)]) dX11_addedBy_95 rfl (by decide) rfl ?_
            refine e_lload (pc' := 99) dX11_addedBy_97 rfl rfl ?_
            refine e_aload_n (pc' := 100) dX11_addedBy_99 rfl rfl ?_
            refine e_iload (pc' := 102) dX11_addedBy_100 rfl rfl ?_
            refine e_cv1j (pc' := 105) dX11_addedBy_102 rfl k_11_180 h_88 rfl (Nat.le_of_ble_eq_true rfl) rfl rfl ⟨rfl, rfl⟩ ⟨Nat.zero_le _, Nat.zero_le _⟩ (s_m_rootOf g ⟨by omega, by omega⟩ hR1) ?_
            rintro z τ2 ⟨hz, hR2, hF2⟩
            refine e_ladd (pc' := 106) dX11_addedBy_105 rfl ?_
            refine e_lstore (pc' := 108) (L' := [some (rv 88), some (iv u), some (jv (s + (Int64.ofInt g))), none, some (jv (c + 1)), none, some (jv (Int64.ofInt g)), none, some (jv (Int64.ofInt g)), none, some (jv (r + z)), none, some (iv i), some (iv g)]) dX11_addedBy_106 rfl (by decide) rfl ?_
            refine e_iinc (pc' := 111) (L' := [some (rv 88), some (iv u), some (jv (s + (Int64.ofInt g))), none, some (jv (c + 1)), none, some (jv (Int64.ofInt g)), none, some (jv (Int64.ofInt g)), none, some (jv (r + z)), none, some (iv (i + 1)), some (iv g)]) dX11_addedBy_108 rfl rfl (by decide) rfl ?_
            refine e_goto (pc' := 17) dX11_addedBy_111 (by decide) ?_
            have hm0 := (hdS_ok (σ.1 95) j)
            have hj1 : hdS (σ.1 95) (j + 1) = ((hdS (σ.1 95) j).1 + g, (hdS (σ.1 95) j).2.1 + 1, max (hdS (σ.1 95) j).2.2.1 g, (if (hdS (σ.1 95) j).2.2.2.1 = 0 then g else min (hdS (σ.1 95) j).2.2.2.1 g), (hdS (σ.1 95) j).2.2.2.2 + Int64.ofInt (rootZ g)) := by
              show seeS (hdS (σ.1 95) j) (σ.1 95 (j : Int)) = _
              rw [show σ.1 95 (j : Int) = g by rw [← hij]; exact hg0.symm]
              exact if_pos ⟨by omega, by omega⟩
            refine ih (j + 1) τ2 _ _ _ _ _ (i + 1) _ (by omega) (by omega) (by omega) (hF.tr hF2) hR2 ?_ ?_ ?_ ?_ ?_
            · rw [hj1, hs, Int64.ofInt_add]
            · rw [hj1, hnn, Int64.ofInt_add]; rfl
            · rw [hj1]
              dsimp only
              rw [show max (hdS (σ.1 95) j).2.2.1 g = g by omega]
            · rw [hj1]
              dsimp only
              (first | rw [if_pos (by omega)] | rw [if_neg (by omega), show min (hdS (σ.1 95) j).2.2.2.1 g = g by omega])
            · rw [hj1, hr, hz]

set_option maxHeartbeats 4000000 in
set_option maxRecDepth 100000 in
theorem s_m_addedBy {X : AX} {d : Nat} {σ : SG} (t : ST) (m : Nat) (hm : m ≤ 16) (hH : HdI σ m t) (hR : RtI σ) (u : Int) (n : Nat) (T : Int → Int) (hu : 0 ≤ u ∧ u ≤ 2) (hn : n ≤ 40) (htn : σ.1 89 (57 + 41 * u) = n) (htx : ∀ k, 0 ≤ k → k < (n : Int) → σ.1 89 (57 + 41 * u + 1 + k) = T k ∧ chr7 (T k)) : Ev X 0 0 (d + 5) mX11_addedBy 0 [some (rv 88), some (iv u), none, none, none, none, none, none, none, none, none, none, none, none] [] σ (QI (fun r σ' => r = (if (fnS T n).2.2.2.2.2 = -1 then clS (popV (evL t (fnS T n).1)) else 0) ∧ RtI σ' ∧ Fr [88, 92, 93, 94, 96] σ σ' ∧ K88 σ σ')) := by
  refine e_lconst (pc' := 1) (z := 0) dX11_addedBy_0 rfl rfl ?_
  refine e_lstore_n (pc' := 2) (L' := [some (rv 88), some (iv u), some (jv 0), none, none, none, none, none, none, none, none, none, none, none]) dX11_addedBy_1 rfl (by decide) rfl ?_
  refine e_lconst (pc' := 3) (z := 0) dX11_addedBy_2 rfl rfl ?_
  refine e_lstore (pc' := 5) (L' := [some (rv 88), some (iv u), some (jv 0), none, some (jv 0), none, none, none, none, none, none, none, none, none]) dX11_addedBy_3 rfl (by decide) rfl ?_
  refine e_lconst (pc' := 6) (z := 0) dX11_addedBy_5 rfl rfl ?_
  refine e_lstore (pc' := 8) (L' := [some (rv 88), some (iv u), some (jv 0), none, some (jv 0), none, some (jv 0), none, none, none, none, none, none, none]) dX11_addedBy_6 rfl (by decide) rfl ?_
  refine e_lconst (pc' := 9) (z := 0) dX11_addedBy_8 rfl rfl ?_
  refine e_lstore (pc' := 11) (L' := [some (rv 88), some (iv u), some (jv 0), none, some (jv 0), none, some (jv 0), none, some (jv 0), none, none, none, none, none]) dX11_addedBy_9 rfl (by decide) rfl ?_
  refine e_lconst (pc' := 12) (z := 0) dX11_addedBy_11 rfl rfl ?_
  refine e_lstore (pc' := 14) (L' := [some (rv 88), some (iv u), some (jv 0), none, some (jv 0), none, some (jv 0), none, some (jv 0), none, some (jv 0), none, none, none]) dX11_addedBy_12 rfl (by decide) rfl ?_
  refine e_iconst (pc' := 15) dX11_addedBy_14 rfl ?_
  refine e_istore (pc' := 17) (L' := [some (rv 88), some (iv u), some (jv 0), none, some (jv 0), none, some (jv 0), none, some (jv 0), none, some (jv 0), none, some (iv 0), none]) dX11_addedBy_15 rfl (by decide) rfl ?_
  exact l_addedBy t m hm hH hR u n T hu hn htn htx (m + 1) 0 σ _ _ _ _ _ 0 _ rfl (by omega) (by omega) Fr.rf hR rfl rfl rfl rfl rfl
