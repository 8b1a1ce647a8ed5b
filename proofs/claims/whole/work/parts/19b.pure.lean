/-! words for what the methods do -/
def sm (f : Int → Int) : Nat → Int
  | 0 => 0
  | n + 1 => sm f n + f n
def smI (f : Int → Int) (i : Int) : Int := sm f i.toNat
theorem smI_0 (f : Int → Int) : smI f 0 = 0 := rfl
theorem smI_s (f : Int → Int) {i : Int} (h : 0 ≤ i) : smI f (i + 1) = smI f i + f i := by
  unfold smI
  have e1 : (i + 1).toNat = i.toNat + 1 := by omega
  rw [e1]
  show sm f i.toNat + f (i.toNat : Int) = _
  rw [Int.toNat_of_nonneg h]
def gv (f : Int → Int) (g : Int) : Int := f (g * 3 + 0) + f (g * 3 + 1) + f (g * 3 + 2)
def Fr (ks : List Nat) (σ σ' : SG) : Prop := ∀ k, k ∉ ks → σ'.1 k = σ.1 k ∧ σ'.2 k = σ.2 k
theorem Fr.rf {ks : List Nat} {σ : SG} : Fr ks σ σ := fun _ _ => ⟨rfl, rfl⟩
theorem Fr.tr {ks : List Nat} {a b c : SG} (h1 : Fr ks a b) (h2 : Fr ks b c) : Fr ks a c := fun k hk => ⟨(h2 k hk).1.trans (h1 k hk).1, (h2 k hk).2.trans (h1 k hk).2⟩
theorem Fr.mono {ks ks' : List Nat} {a b : SG} (h : Fr ks a b) (hs : ∀ k ∈ ks, k ∈ ks') : Fr ks' a b := fun k hk => h k (fun q => hk (hs k q))
theorem fr_I {ks : List Nat} {a b : SG} {q : Nat} {i v : Int} (h : Fr ks a b) (hq : q ∈ ks) : Fr ks a (upI b q i v) := fun k hk => by
  have hn : ¬ k = q := fun e => hk (e ▸ hq)
  refine ⟨?_, (h k hk).2⟩
  rw [← (h k hk).1]
  funext j
  simp only [upI, hn, false_and, if_false]
theorem fr_J {ks : List Nat} {a b : SG} {q : Nat} {i : Int} {v : Int64} (h : Fr ks a b) (hq : q ∈ ks) : Fr ks a (upJ b q i v) := fun k hk => by
  have hn : ¬ k = q := fun e => hk (e ▸ hq)
  refine ⟨(h k hk).1, ?_⟩
  rw [← (h k hk).2]
  funext j
  simp only [upJ, hn, false_and, if_false]
theorem fr_C {ks : List Nat} {a b : SG} {q : Nat} {f : Int → Int} (h : Fr ks a b) (hq : q ∈ ks) : Fr ks a (upC b q f) := fun k hk => by
  have hn : ¬ k = q := fun e => hk (e ▸ hq)
  refine ⟨?_, (h k hk).2⟩
  rw [← (h k hk).1]
  funext j
  simp only [upC, hn, if_false]
abbrev ST : Type := Int × Int × Int × Int × Int64
def seeS (t : ST) (c : Int) : ST := if 1 ≤ c ∧ c ≤ 12 then (t.1 + c, t.2.1 + 1, max t.2.2.1 c, (if t.2.2.2.1 = 0 then c else min t.2.2.2.1 c), t.2.2.2.2 + Int64.ofInt (rootZ c)) else t
def SgI (σ : SG) (t : ST) : Prop := σ.1 37 2 = t.1 ∧ σ.1 37 3 = t.2.1 ∧ σ.1 37 4 = t.2.2.1 ∧ σ.1 37 5 = t.2.2.2.1 ∧ σ.2 37 6 = t.2.2.2.2
def stOK (t : ST) : Prop := 0 ≤ t.2.2.1 ∧ t.2.2.1 ≤ 12 ∧ 0 ≤ t.2.2.2.1 ∧ t.2.2.2.1 ≤ 12
def st0 : ST := (0, 0, 0, 0, 0)
theorem seeS_ok {t : ST} (h : stOK t) (c : Int) : stOK (seeS t c) := by
  unfold seeS
  split
  · next hc =>
    obtain ⟨h1, h2, h3, h4⟩ := h
    refine ⟨?_, ?_, ?_, ?_⟩
    · show 0 ≤ max t.2.2.1 c; omega
    · show max t.2.2.1 c ≤ 12; omega
    · show 0 ≤ (if t.2.2.2.1 = 0 then c else min t.2.2.2.1 c); split <;> omega
    · show (if t.2.2.2.1 = 0 then c else min t.2.2.2.1 c) ≤ 12; split <;> omega
  · exact h
/-- all gifts to a work but one giver's, in their order -/
def saS (f : Int → Int) (w absent : Int) : Nat → ST
  | 0 => st0
  | n + 1 => if (n : Int) = absent then saS f w absent n else seeS (saS f w absent n) (f ((n : Int) * 3 + w))
theorem saS_ok (f : Int → Int) (w a : Int) : ∀ n, stOK (saS f w a n)
  | 0 => (⟨by decide, by decide, by decide, by decide⟩ : stOK st0)
  | n + 1 => by
    unfold saS
    split
    · exact saS_ok f w a n
    · exact seeS_ok (saS_ok f w a n) _
def saI (f : Int → Int) (w a i : Int) : ST := saS f w a i.toNat
theorem saI_s (f : Int → Int) (w a : Int) {i : Int} (h : 0 ≤ i) : saI f w a (i + 1) = if i = a then saI f w a i else seeS (saI f w a i) (f (i * 3 + w)) := by
  unfold saI
  have e1 : (i + 1).toNat = i.toNat + 1 := by omega
  rw [e1]
  show (if ((i.toNat : Nat) : Int) = a then saS f w a i.toNat else seeS (saS f w a i.toNat) (f (((i.toNat : Nat) : Int) * 3 + w))) = _
  rw [Int.toNat_of_nonneg h]
def wcS (bar top step amount : Int) : Int := if amount < bar then 0 else
  let c := if 0 < step then min (min amount 60) ((top + step - 1) / step) else min amount 60
  c * top - step * (c * (c - 1) / 2)
