/-! the interpreter over memories of a fixed shape: ints and longs by cell and place; how it steps -/
abbrev SG : Type := (Nat → Int → Int) × (Nat → Int → Int64)
abbrev SE : Type := (Nat × Nat × Option (Int → Option Nat)) ⊕ (Nat × List (Nat ⊕ AV))
def entF (σ : SG) (k : Nat) (j : Nat) (f : Nat ⊕ AV) : AV := match f with
  | .inl 0 => iv (σ.1 k j)
  | .inl _ => jv (σ.2 k j)
  | .inr v => v
def ent (σ : SG) (k : Nat) (e : SE) : AE := match e with
  | .inl (1, n, none) => .inl (1, n, .inr (.inl (σ.2 k)))
  | .inl (t, n, none) => .inl (t, n, .inl (σ.1 k))
  | .inl (t, n, some f) => .inl (t, n, .inr (.inr f))
  | .inr (ci, fs) => .inr (ci, fs.mapIdx (entF σ k))
def memS (sh : List SE) (σ : SG) : AM := sh.mapIdx (ent σ)
def upI (σ : SG) (q : Nat) (i : Int) (v : Int) : SG := (fun k j => if k = q ∧ j = i then v else σ.1 k j, σ.2)
def upJ (σ : SG) (q : Nat) (i : Int) (v : Int64) : SG := (σ.1, fun k j => if k = q ∧ j = i then v else σ.2 k j)
def upC (σ : SG) (q : Nat) (f : Int → Int) : SG := (fun k j => if k = q then f j else σ.1 k j, σ.2)
theorem mem_get {sh : List SE} {σ : SG} {q : Nat} {e : SE} (h : sh[q]? = some e) : (memS sh σ)[q]? = some (ent σ q e) := by
  simp [memS, List.getElem?_mapIdx, h]
theorem ent_congr {σ σ' : SG} {k : Nat} (e : SE) (h1 : σ'.1 k = σ.1 k) (h2 : σ'.2 k = σ.2 k) : ent σ' k e = ent σ k e := by
  have h3 : entF σ' k = entF σ k := by
    funext j f
    unfold entF
    rw [h1, h2]
  unfold ent
  rw [h1, h2, h3]
theorem ent_up_ne {σ : SG} {q k : Nat} {i v : Int} (e : SE) (h : k ≠ q) : ent (upI σ q i v) k e = ent σ k e := ent_congr e (funext fun j => by simp only [upI, h, false_and, if_false]) rfl
theorem ent_upJ_ne {σ : SG} {q k : Nat} {i : Int} {v : Int64} (e : SE) (h : k ≠ q) : ent (upJ σ q i v) k e = ent σ k e := ent_congr e rfl (funext fun j => by simp only [upJ, h, false_and, if_false])
theorem ent_upC_ne {σ : SG} {q k : Nat} {f : Int → Int} (e : SE) (h : k ≠ q) : ent (upC σ q f) k e = ent σ k e := ent_congr e (funext fun j => by simp only [upC, h, if_false]) rfl
theorem mem_set_of {sh : List SE} {σ σ' : SG} {q : Nat} {e : SE} (hq : sh[q]? = some e) (h : ∀ k e', k ≠ q → ent σ' k e' = ent σ k e') : (memS sh σ).set q (ent σ' q e) = memS sh σ' := by
  apply List.ext_getElem?
  intro k
  rw [List.getElem?_set]
  by_cases hk : q = k
  · subst hk
    rw [if_pos rfl, mem_get hq, if_pos (by simp [memS]; exact (List.getElem?_eq_some_iff.mp hq).1)]
  · rw [if_neg hk]
    simp only [memS, List.getElem?_mapIdx]
    cases hs : sh[k]? with
    | none => rfl
    | some e' => simp [h k e' (fun q => hk q.symm)]
theorem mem_setA {sh : List SE} {σ : SG} {q t n : Nat} {i v : Int} (ht : t ≠ 1) (hq : sh[q]? = some (.inl (t, n, none))) : (memS sh σ).set q (.inl (t, n, .inl (updA (σ.1 q) i v))) = memS sh (upI σ q i v) := by
  rw [← mem_set_of (σ' := upI σ q i v) hq (fun k e' hk => ent_up_ne e' hk)]
  congr 1
  have h2 : (upI σ q i v).1 q = updA (σ.1 q) i v := by funext j; simp [upI, updA]
  unfold ent
  split
  · next h => cases h; exact absurd rfl ht
  · next h => cases h; rw [h2]
  · next h => cases h
  · next h => cases h
theorem mem_setL {sh : List SE} {σ : SG} {q n : Nat} {i : Int} {v : Int64} (hq : sh[q]? = some (.inl (1, n, none))) : (memS sh σ).set q (.inl (1, n, .inr (.inl (updA (σ.2 q) i v)))) = memS sh (upJ σ q i v) := by
  rw [← mem_set_of (σ' := upJ σ q i v) hq (fun k e' hk => ent_upJ_ne e' hk)]
  congr 1
  have h2 : (upJ σ q i v).2 q = updA (σ.2 q) i v := by funext j; simp [upJ, updA]
  simp only [ent, h2]
theorem mem_setC {sh : List SE} {σ : SG} {q n : Nat} {f : Int → Int} (hq : sh[q]? = some (.inl (0, n, none))) : (memS sh σ).set q (.inl (0, n, .inl f)) = memS sh (upC σ q f) := by
  rw [← mem_set_of (σ' := upC σ q f) hq (fun k e' hk => ent_upC_ne e' hk)]
  congr 1
  have h2 : (upC σ q f).1 q = f := by funext j; simp [upC]
  simp only [ent, h2]
theorem mem_setF {sh : List SE} {σ : SG} {q ci j : Nat} {fs : List (Nat ⊕ AV)} {v : Int} (hq : sh[q]? = some (.inr (ci, fs))) (hj : fs[j]? = some (.inl 0)) : (memS sh σ).set q (.inr (ci, (fs.mapIdx (entF σ q)).set j (iv v))) = memS sh (upI σ q j v) := by
  rw [← mem_set_of (σ' := upI σ q j v) hq (fun k e' hk => ent_up_ne e' hk)]
  congr 1
  simp only [ent]
  congr 2
  apply List.ext_getElem?
  intro k
  rw [List.getElem?_set]
  by_cases hk : j = k
  · subst hk
    have hl : j < fs.length := (List.getElem?_eq_some_iff.mp hj).1
    have hj2 : fs[j] = Sum.inl 0 := (List.getElem?_eq_some_iff.mp hj).2
    simp [List.getElem?_mapIdx, hl, entF, upI, hj2]
  · rw [if_neg hk]
    simp only [List.getElem?_mapIdx]
    cases hs : fs[k]? with
    | none => rfl
    | some f =>
      have h1 : (upI σ q (j : Int) v).1 q (k : Int) = σ.1 q k := by
        have : ¬ (k : Int) = (j : Int) := fun z => hk (by omega)
        simp only [upI, this, and_false, if_false]
      simp only [Option.map_some, Option.some.injEq]
      unfold entF
      rw [h1]
      rfl
theorem mem_setFJ {sh : List SE} {σ : SG} {q ci j : Nat} {fs : List (Nat ⊕ AV)} {v : Int64} (hq : sh[q]? = some (.inr (ci, fs))) (hj : fs[j]? = some (.inl 1)) : (memS sh σ).set q (.inr (ci, (fs.mapIdx (entF σ q)).set j (jv v))) = memS sh (upJ σ q j v) := by
  rw [← mem_set_of (σ' := upJ σ q j v) hq (fun k e' hk => ent_upJ_ne e' hk)]
  congr 1
  simp only [ent]
  congr 2
  apply List.ext_getElem?
  intro k
  rw [List.getElem?_set]
  by_cases hk : j = k
  · subst hk
    have hl : j < fs.length := (List.getElem?_eq_some_iff.mp hj).1
    have hj2 : fs[j] = Sum.inl 1 := (List.getElem?_eq_some_iff.mp hj).2
    simp [List.getElem?_mapIdx, hl, entF, upJ, hj2]
  · rw [if_neg hk]
    simp only [List.getElem?_mapIdx]
    cases hs : fs[k]? with
    | none => rfl
    | some f =>
      have h1 : (upJ σ q (j : Int) v).2 q (k : Int) = σ.2 q k := by
        have : ¬ (k : Int) = (j : Int) := fun z => hk (by omega)
        simp only [upJ, this, and_false, if_false]
      simp only [Option.map_some, Option.some.injEq]
      unfold entF
      rw [h1]
      rfl
