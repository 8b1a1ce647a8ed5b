/-! packed gifts tell the gifts -/
def pkN (f : Int → Int) : Nat → Nat
  | 0 => 0
  | n + 1 => pkN f n * 16 + (f n).toNat
theorem pkN_lt {f : Int → Int} : ∀ n : Nat, (∀ j : Int, 0 ≤ j → j < (n : Int) → 0 ≤ f j ∧ f j ≤ 12) → pkN f n < 16 ^ n
  | 0, _ => by show 0 < 16 ^ 0; decide
  | n + 1, h => by
    have ih := pkN_lt n (fun j a b => h j a (by omega))
    have := h n (by omega) (by omega)
    show pkN f n * 16 + (f n).toNat < 16 ^ (n + 1)
    rw [Nat.pow_succ]
    omega
theorem pkS_N {f : Int → Int} : ∀ n : Nat, n ≤ 15 → (∀ j : Int, 0 ≤ j → j < (n : Int) → 0 ≤ f j ∧ f j ≤ 12) → (pkS f n).toBitVec.toNat = pkN f n
  | 0, _, _ => rfl
  | n + 1, hn, h => by
    have hh : ∀ j : Int, 0 ≤ j → j < (n : Int) → 0 ≤ f j ∧ f j ≤ 12 := fun j a b => h j a (by omega)
    have ih := pkS_N n (by omega) hh
    have hl := pkN_lt n hh
    have hf := h n (by omega) (by omega)
    have hp : 16 ^ n ≤ 16 ^ 14 := Nat.pow_le_pow_right (by decide) (by omega)
    have e1 : ((Int32.ofInt 4).toInt64 &&& 63) = 4 := by decide
    show ((pkS f n <<< ((Int32.ofInt 4).toInt64 &&& 63)) ||| Int64.ofInt (f n)).toBitVec.toNat = pkN f n * 16 + (f n).toNat
    rw [e1, Int64.toBitVec_or, BitVec.toNat_or, Int64.toBitVec_ofInt, BitVec.toNat_ofInt]
    have e2 : (pkS f n <<< (4 : Int64)).toBitVec.toNat = (pkS f n).toBitVec.toNat <<< 4 % 2 ^ 64 := rfl
    have h16 : (16 : Nat) ^ 14 = 72057594037927936 := by decide
    have e3 : pkN f n <<< 4 = pkN f n * 16 := Nat.shiftLeft_eq _ _
    rw [e2, ih, e3, Nat.mod_eq_of_lt (by omega)]
    have e4 : (f n % ((2 ^ 64 : Nat) : Int)).toNat = (f n).toNat := by
      rw [Int.emod_eq_of_lt hf.1 (by have : ((2 ^ 64 : Nat) : Int) = 18446744073709551616 := by decide
                                     omega)]
    rw [e4, ← e3, ← Nat.shiftLeft_add_eq_or_of_lt (i := 4) (by omega), e3]
theorem pkN_inj {f g : Int → Int} : ∀ n : Nat, (∀ j : Int, 0 ≤ j → j < (n : Int) → 0 ≤ f j ∧ f j ≤ 12) → (∀ j : Int, 0 ≤ j → j < (n : Int) → 0 ≤ g j ∧ g j ≤ 12) → pkN f n = pkN g n → ∀ j : Int, 0 ≤ j → j < (n : Int) → f j = g j
  | 0, _, _, _, j, a, b => absurd b (by omega)
  | n + 1, hf, hg, h, j, a, b => by
    have h1 := hf n (by omega) (by omega)
    have h2 := hg n (by omega) (by omega)
    have h3 : pkN f n * 16 + (f n).toNat = pkN g n * 16 + (g n).toNat := h
    by_cases e : j = (n : Int)
    · rw [e]; omega
    · exact pkN_inj n (fun j a b => hf j a (by omega)) (fun j a b => hg j a (by omega)) (by omega) j a (by omega)
theorem pkS_cg {f g : Int → Int} : ∀ n : Nat, (∀ j : Int, 0 ≤ j → j < (n : Int) → f j = g j) → pkS f n = pkS g n
  | 0, _ => rfl
  | n + 1, h => by
    show ((pkS f n <<< _) ||| Int64.ofInt (f n)) = ((pkS g n <<< _) ||| Int64.ofInt (g n))
    rw [pkS_cg n (fun j a b => h j a (by omega)), h n (by omega) (by omega)]
theorem pk_iff {f g : Int → Int} (hf : ∀ j : Int, 0 ≤ j → j < 15 → 0 ≤ f j ∧ f j ≤ 12) (hg : ∀ j : Int, 0 ≤ j → j < 15 → 0 ≤ g j ∧ g j ≤ 12) : pkS f 15 = pkS g 15 ↔ ∀ j : Int, 0 ≤ j → j < 15 → f j = g j := by
  constructor
  · intro h
    have a := pkS_N (f := f) 15 (by decide) hf
    have b := pkS_N (f := g) 15 (by decide) hg
    rw [h] at a
    exact pkN_inj 15 hf hg (a.symm.trans b)
  · intro h
    exact pkS_cg 15 h
theorem wbB_cg {f g : Int → Int64} {v : Int64} : ∀ n : Nat, (∀ j : Int, 0 ≤ j → j < (n : Int) → f j = g j) → wbB f v n = wbB g v n
  | 0, _ => rfl
  | n + 1, h => by
    show (wbB f v n || decide (f n = v)) = (wbB g v n || decide (g n = v))
    rw [wbB_cg n (fun j a b => h j a (by omega)), h n (by omega) (by omega)]
theorem wb_upd {h : Int → Int64} {v w : Int64} {r : Int} : wbI (updA h r w) v r = wbI h v r := by
  unfold wbI
  refine wbB_cg _ (fun j a b => ?_)
  unfold updA
  rw [if_neg (by omega)]
