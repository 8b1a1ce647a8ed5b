section EVM
variable {X : AX} {c s d : Nat} {mr : MRec} {pc pc' : Nat} {L L' : AL} {S S' : List AV} {σ σ' : SG} {Q : Option AV → SG → Prop}
theorem o_get {q ci : Nat} {fs : List (Nat ⊕ AV)} (h : shp[q]? = some (.inr (ci, fs))) : (mem σ)[q]? = some (.inr (ci, fs.mapIdx (entF σ q))) := mem_get h
theorem a_get {q n : Nat} (h : shp[q]? = some (.inl (0, n, none))) : (mem σ)[q]? = some (.inl (0, n, .inl (σ.1 q))) := mem_get h
theorem z_get {q n : Nat} (h : shp[q]? = some (.inl (2, n, none))) : (mem σ)[q]? = some (.inl (2, n, .inl (σ.1 q))) := mem_get h
theorem l_get {q n : Nat} (h : shp[q]? = some (.inl (1, n, none))) : (mem σ)[q]? = some (.inl (1, n, .inr (.inl (σ.2 q)))) := mem_get h
theorem r_get {q t n : Nat} {f : Int → Option Nat} (h : shp[q]? = some (.inl (t, n, some f))) : (mem σ)[q]? = some (.inl (t, n, .inr (.inr f))) := by
  have := mem_get (σ := σ) h
  rw [show mem σ = memS shp σ from rfl, this]
  unfold ent
  split
  · next h => cases h
  · next h => cases h
  · next h => cases h; rfl
  · next h => cases h
theorem e_getI {k q ci j : Nat} {fs : List (Nat ⊕ AV)} {v : Int} (hd : decode mr.2.1 pc = .ok (.getfield k, 3)) (hp : pc + 3 = pc') (hf : fld mr.2.2.2.2.2.2 k = some (ci, j)) (ho : shp[q]? = some (.inr (ci, fs))) (hj : fs[j]? = some (.inl 0)) (hv : σ.1 q j = v) (K : Ev X c s d mr pc' L (iv v :: S) σ Q) : Ev X c s d mr pc L (rv q :: S) σ Q := by
  subst hp; subst hv
  exact e_stp hd rfl rfl (by simp only [stp, hf, o_get ho, if_true, List.getElem?_mapIdx, hj, Option.map_some, entF]) K
theorem e_getJ {k q ci j : Nat} {fs : List (Nat ⊕ AV)} {v : Int64} (hd : decode mr.2.1 pc = .ok (.getfield k, 3)) (hp : pc + 3 = pc') (hf : fld mr.2.2.2.2.2.2 k = some (ci, j)) (ho : shp[q]? = some (.inr (ci, fs))) (hj : fs[j]? = some (.inl 1)) (hv : σ.2 q j = v) (K : Ev X c s d mr pc' L (jv v :: S) σ Q) : Ev X c s d mr pc L (rv q :: S) σ Q := by
  subst hp; subst hv
  exact e_stp hd rfl rfl (by simp only [stp, hf, o_get ho, if_true, List.getElem?_mapIdx, hj, Option.map_some, entF]) K
theorem e_getR {k q ci j : Nat} {fs : List (Nat ⊕ AV)} {v : AV} (hd : decode mr.2.1 pc = .ok (.getfield k, 3)) (hp : pc + 3 = pc') (hf : fld mr.2.2.2.2.2.2 k = some (ci, j)) (ho : shp[q]? = some (.inr (ci, fs))) (hj : fs[j]? = some (.inr v)) (K : Ev X c s d mr pc' L (v :: S) σ Q) : Ev X c s d mr pc L (rv q :: S) σ Q := by
  subst hp
  exact e_stp hd rfl rfl (by simp only [stp, hf, o_get ho, if_true, List.getElem?_mapIdx, hj, Option.map_some, entF]) K
theorem e_putI {k q ci j : Nat} {fs : List (Nat ⊕ AV)} {v : Int} (hd : decode mr.2.1 pc = .ok (.putfield k, 3)) (hp : pc + 3 = pc') (hf : fld mr.2.2.2.2.2.2 k = some (ci, j)) (ho : shp[q]? = some (.inr (ci, fs))) (hj : fs[j]? = some (.inl 0)) (hok : okv (tyT ci j) (iv v) = true) (hfin : finT ci j = false) (K : Ev X c s d mr pc' L S (upI σ q j v) Q) : Ev X c s d mr pc L (iv v :: rv q :: S) σ Q := by
  subst hp
  have hl : j < fs.length := (List.getElem?_eq_some_iff.mp hj).1
  refine e_stp hd rfl rfl ?_ K
  simp only [stp, hf, o_get ho, List.length_mapIdx, hl, hok, hfin, Bool.false_eq_true, false_implies, and_self, if_true]
  rw [show mem σ = memS shp σ from rfl, mem_setF ho hj]
  rfl
theorem e_putJ {k q ci j : Nat} {fs : List (Nat ⊕ AV)} {v : Int64} (hd : decode mr.2.1 pc = .ok (.putfield k, 3)) (hp : pc + 3 = pc') (hf : fld mr.2.2.2.2.2.2 k = some (ci, j)) (ho : shp[q]? = some (.inr (ci, fs))) (hj : fs[j]? = some (.inl 1)) (hok : okv (tyT ci j) (jv v) = true) (hfin : finT ci j = false) (K : Ev X c s d mr pc' L S (upJ σ q j v) Q) : Ev X c s d mr pc L (jv v :: rv q :: S) σ Q := by
  subst hp
  have hl : j < fs.length := (List.getElem?_eq_some_iff.mp hj).1
  refine e_stp hd rfl rfl ?_ K
  simp only [stp, hf, o_get ho, List.length_mapIdx, hl, hok, hfin, Bool.false_eq_true, false_implies, and_self, if_true]
  rw [show mem σ = memS shp σ from rfl, mem_setFJ ho hj]
  rfl
theorem e_stat {k : Nat} (hd : decode mr.2.1 pc = .ok (.getstatic k, 3)) (hp : pc + 3 = pc') (h9 : mr.2.2.2.2.2.2 = 9) (hk : k = 41) (K : Ev X c s d mr pc' L (sv 1 :: S) σ Q) : Ev X c s d mr pc L S σ Q := by
  subst hp; exact e_stp hd rfl rfl (by simp only [stp, h9, hk, and_self, if_true]) K
theorem inA_of {i : Int} {n : Nat} (h0 : 0 ≤ i) (h1 : i < n) (h2 : n < 2147483648) : inA i n = true := by
  simp only [inA, decide_eq_true_eq]; exact ⟨h0, h1, h2⟩
theorem e_iald {q n : Nat} {i v : Int} (hd : decode mr.2.1 pc = .ok (.iaload, 1)) (hp : pc + 1 = pc') (ha : shp[q]? = some (.inl (0, n, none))) (hn : n < 2147483648) (h0 : 0 ≤ i) (h1 : i < n) (hv : σ.1 q i = v) (K : Ev X c s d mr pc' L (iv v :: S) σ Q) : Ev X c s d mr pc L (iv i :: rv q :: S) σ Q := by
  subst hp; subst hv
  exact e_stp hd rfl rfl (by simp only [stp, a_get ha, inA_of h0 h1 hn, if_true]) K
theorem e_bald {q n : Nat} {i v : Int} (hd : decode mr.2.1 pc = .ok (.baload, 1)) (hp : pc + 1 = pc') (ha : shp[q]? = some (.inl (2, n, none))) (hn : n < 2147483648) (h0 : 0 ≤ i) (h1 : i < n) (hv : σ.1 q i = v) (K : Ev X c s d mr pc' L (iv v :: S) σ Q) : Ev X c s d mr pc L (iv i :: rv q :: S) σ Q := by
  subst hp; subst hv
  exact e_stp hd rfl rfl (by simp only [stp, z_get ha, inA_of h0 h1 hn, if_true]) K
theorem e_lald {q n : Nat} {i : Int} {v : Int64} (hd : decode mr.2.1 pc = .ok (.laload, 1)) (hp : pc + 1 = pc') (ha : shp[q]? = some (.inl (1, n, none))) (hn : n < 2147483648) (h0 : 0 ≤ i) (h1 : i < n) (hv : σ.2 q i = v) (K : Ev X c s d mr pc' L (jv v :: S) σ Q) : Ev X c s d mr pc L (iv i :: rv q :: S) σ Q := by
  subst hp; subst hv
  exact e_stp hd rfl rfl (by simp only [stp, l_get ha, inA_of h0 h1 hn, if_true]) K
theorem e_aald {q t n k : Nat} {f : Int → Option Nat} {i : Int} (hd : decode mr.2.1 pc = .ok (.aaload, 1)) (hp : pc + 1 = pc') (ha : shp[q]? = some (.inl (t, n, some f))) (ht : t = 3 ∨ t = 4) (hn : n < 2147483648) (h0 : 0 ≤ i) (h1 : i < n) (hv : f i = some k) (K : Ev X c s d mr pc' L (rv k :: S) σ Q) : Ev X c s d mr pc L (iv i :: rv q :: S) σ Q := by
  subst hp
  exact e_stp hd rfl rfl (by simp only [stp, r_get ha, inA_of h0 h1 hn, ht, and_self, if_true, hv, Option.map_some]) K
theorem e_root {i : Int} (hd : decode mr.2.1 pc = .ok (.iaload, 1)) (hp : pc + 1 = pc') (h0 : 0 ≤ i) (h1 : i < 13) (K : Ev X c s d mr pc' L (iv (rootZ i) :: S) σ Q) : Ev X c s d mr pc L (iv i :: sv 1 :: S) σ Q := by
  subst hp
  exact e_stp hd rfl rfl (by simp only [stp, inA_of (n := 13) h0 h1 (by decide), if_true]) K
theorem e_sld {i : Int} (hd : decode mr.2.1 pc = .ok (.iaload, 1)) (hp : pc + 1 = pc') (hn : X.1 < 2147483648) (h0 : 0 ≤ i) (h1 : i < X.1) (K : Ev X c s d mr pc' L (iv (X.2 i.toNat).toInt :: S) σ Q) : Ev X c s d mr pc L (iv i :: sv 2 :: S) σ Q := by
  subst hp
  exact e_stp hd rfl rfl (by simp only [stp, inA_of h0 h1 hn, if_true]) K
theorem e_slen (hd : decode mr.2.1 pc = .ok (.arraylength, 1)) (hp : pc + 1 = pc') (hn : X.1 < 2147483648) (K : Ev X c s d mr pc' L (iv X.1 :: S) σ Q) : Ev X c s d mr pc L (sv 2 :: S) σ Q := by
  subst hp
  have e1 : (Int32.ofNat X.1).toInt = X.1 := nI_toInt hn
  rw [← e1] at K
  exact e_stp hd rfl rfl rfl K
theorem e_iast {q n : Nat} {i v : Int} (hd : decode mr.2.1 pc = .ok (.iastore, 1)) (hp : pc + 1 = pc') (ha : shp[q]? = some (.inl (0, n, none))) (hn : n < 2147483648) (h0 : 0 ≤ i) (h1 : i < n) (K : Ev X c s d mr pc' L S (upI σ q i v) Q) : Ev X c s d mr pc L (iv v :: iv i :: rv q :: S) σ Q := by
  subst hp
  refine e_stp hd rfl rfl ?_ K
  simp only [stp, a_get ha, inA_of h0 h1 hn, if_true]
  rw [show mem σ = memS shp σ from rfl, mem_setA (by decide) ha]
  rfl
theorem e_bast {q n : Nat} {i v : Int} (hd : decode mr.2.1 pc = .ok (.bastore, 1)) (hp : pc + 1 = pc') (ha : shp[q]? = some (.inl (2, n, none))) (hn : n < 2147483648) (h0 : 0 ≤ i) (h1 : i < n) (hv : v = 0 ∨ v = 1) (K : Ev X c s d mr pc' L S (upI σ q i v) Q) : Ev X c s d mr pc L (iv v :: iv i :: rv q :: S) σ Q := by
  subst hp
  refine e_stp hd rfl rfl ?_ K
  simp only [stp, z_get ha, inA_of h0 h1 hn, hv, and_self, if_true]
  rw [show mem σ = memS shp σ from rfl, mem_setA (by decide) ha]
  rfl
theorem e_last {q n : Nat} {i : Int} {v : Int64} (hd : decode mr.2.1 pc = .ok (.lastore, 1)) (hp : pc + 1 = pc') (ha : shp[q]? = some (.inl (1, n, none))) (hn : n < 2147483648) (h0 : 0 ≤ i) (h1 : i < n) (K : Ev X c s d mr pc' L S (upJ σ q i v) Q) : Ev X c s d mr pc L (jv v :: iv i :: rv q :: S) σ Q := by
  subst hp
  refine e_stp hd rfl rfl ?_ K
  simp only [stp, l_get ha, inA_of h0 h1 hn, if_true]
  rw [show mem σ = memS shp σ from rfl, mem_setL ha]
  rfl
theorem e_max {k pp : Nat} {x y : Int} {dd : Nat} (hd : decode mr.2.1 pc = .ok (.invokestatic k, 3)) (hp : pc + 3 = pc') (hs : sp mr.2.2.2.2.2.2 k = some (8, pp)) (hx : rg x) (hy : rg y) (hr : (S.map cat).sum ≤ 8) (hc : c ≤ mr.2.2.2.2.1 ∧ s ≤ mr.2.2.2.2.2.1) (K : Ev X c s (dd + 1) mr pc' L (iv (max x y) :: S) σ Q) : Ev X c s (dd + 1) mr pc L (iv y :: iv x :: S) σ Q := by
  subst hp
  have e1 : (if Int32.ofInt x < Int32.ofInt y then y else x) = max x y := by
    rw [Int.max_def]
    by_cases h : x < y
    · rw [if_pos ((rg_lt hx hy).mpr h), if_pos (by omega)]
    · rw [if_neg (fun q => h ((rg_lt hx hy).mp q))]
      split <;> omega
  rw [← e1] at K
  exact e_stp hd rfl rfl (by simp only [stp, hs, hr, hc, Nat.le_add_left, and_self, if_true]) K
theorem e_min {k pp : Nat} {x y : Int} {dd : Nat} (hd : decode mr.2.1 pc = .ok (.invokestatic k, 3)) (hp : pc + 3 = pc') (hs : sp mr.2.2.2.2.2.2 k = some (9, pp)) (hx : rg x) (hy : rg y) (hr : (S.map cat).sum ≤ 8) (hc : c ≤ mr.2.2.2.2.1 ∧ s ≤ mr.2.2.2.2.2.1) (K : Ev X c s (dd + 1) mr pc' L (iv (min x y) :: S) σ Q) : Ev X c s (dd + 1) mr pc L (iv y :: iv x :: S) σ Q := by
  subst hp
  have e1 : (if Int32.ofInt y < Int32.ofInt x then y else x) = min x y := by
    rw [Int.min_def]
    by_cases h : y < x
    · rw [if_pos ((rg_lt hy hx).mpr h), if_neg (by omega)]
    · rw [if_neg (fun q => h ((rg_lt hy hx).mp q))]
      split <;> omega
  rw [← e1] at K
  exact e_stp hd rfl rfl (by simp only [stp, hs, hr, hc, Nat.le_add_left, and_self, if_true]) K
theorem e_maxl {k pp : Nat} {x y : Int64} {dd : Nat} (hd : decode mr.2.1 pc = .ok (.invokestatic k, 3)) (hp : pc + 3 = pc') (hs : sp mr.2.2.2.2.2.2 k = some (10, pp)) (hr : (S.map cat).sum ≤ 8) (hc : c ≤ mr.2.2.2.2.1 ∧ s ≤ mr.2.2.2.2.2.1) (K : Ev X c s (dd + 1) mr pc' L (jv (if y < x then x else y) :: S) σ Q) : Ev X c s (dd + 1) mr pc L (jv y :: jv x :: S) σ Q := by
  subst hp
  exact e_stp hd rfl rfl (by simp only [stp, hs, hr, hc, Nat.le_add_left, and_self, if_true]) K
theorem e_minl {k pp : Nat} {x y : Int64} {dd : Nat} (hd : decode mr.2.1 pc = .ok (.invokestatic k, 3)) (hp : pc + 3 = pc') (hs : sp mr.2.2.2.2.2.2 k = some (11, pp)) (hr : (S.map cat).sum ≤ 8) (hc : c ≤ mr.2.2.2.2.1 ∧ s ≤ mr.2.2.2.2.2.1) (K : Ev X c s (dd + 1) mr pc' L (jv (if y < x then y else x) :: S) σ Q) : Ev X c s (dd + 1) mr pc L (jv y :: jv x :: S) σ Q := by
  subst hp
  exact e_stp hd rfl rfl (by simp only [stp, hs, hr, hc, Nat.le_add_left, and_self, if_true]) K
theorem e_copy {k pp q q0 n0 n1 dd : Nat} {n dp sp0 : Int} (hd : decode mr.2.1 pc = .ok (.invokestatic k, 3)) (hp : pc + 3 = pc') (hs : sp mr.2.2.2.2.2.2 k = some (7, pp)) (ha0 : shp[q0]? = some (.inl (0, n0, none))) (ha1 : shp[q]? = some (.inl (0, n1, none))) (hn : 0 ≤ n ∧ 0 ≤ dp ∧ 0 ≤ sp0 ∧ sp0 + n ≤ n0 ∧ dp + n ≤ n1 ∧ n0 < 2147483648 ∧ n1 < 2147483648) (hr : (S.map cat).sum ≤ 8) (K : Ev X c s (dd + 1) mr pc' L S (upC σ q (cpyA (σ.1 q0) (σ.1 q) sp0 dp n)) Q) : Ev X c s (dd + 1) mr pc L (iv n :: iv dp :: rv q :: iv sp0 :: rv q0 :: S) σ Q := by
  subst hp
  refine e_stp hd rfl rfl ?_ K
  simp only [stp, hs, a_get ha0, a_get ha1, hn, hr, Nat.le_add_left, and_self, if_true]
  rw [show mem σ = memS shp σ from rfl, mem_setC ha1]
  rfl
theorem e_ret {ins : Instr} {len : Nat} {v : Option AV} (hd : decode mr.2.1 pc = .ok (ins, len)) (hlen : lenOK ins len = true) (hr : rtn mr ins S = some v) (hc : c = mr.2.2.2.2.1 ∧ s ≤ mr.2.2.2.2.2.1) (q : Q v σ) : Ev X c s d mr pc L S σ Q := by
  refine ⟨1, v, σ, ?_, q⟩
  unfold run
  rw [hd]
  simp only [hlen, if_true, hr, hc, and_self]
theorem e_iret {z : Int} (hd : decode mr.2.1 pc = .ok (.ireturn, 1)) (hr : mr.2.2.2.1 = some .int) (hc : c = mr.2.2.2.2.1 ∧ s ≤ mr.2.2.2.2.2.1) (q : Q (some (iv z)) σ) : Ev X c s d mr pc L [iv z] σ Q := e_ret hd rfl (by simp only [rtn, hr]) hc q
theorem e_zret {z : Int} (hd : decode mr.2.1 pc = .ok (.ireturn, 1)) (hr : mr.2.2.2.1 = some .boolean) (hz : z = 0 ∨ z = 1) (hc : c = mr.2.2.2.2.1 ∧ s ≤ mr.2.2.2.2.2.1) (q : Q (some (iv z)) σ) : Ev X c s d mr pc L [iv z] σ Q := e_ret hd rfl (by simp only [rtn, hr, hz, if_true]) hc q
theorem e_lret {z : Int64} (hd : decode mr.2.1 pc = .ok (.lreturn, 1)) (hr : mr.2.2.2.1 = some .long) (hc : c = mr.2.2.2.2.1 ∧ s ≤ mr.2.2.2.2.2.1) (q : Q (some (jv z)) σ) : Ev X c s d mr pc L [jv z] σ Q := e_ret hd rfl (by simp only [rtn, hr]) hc q
theorem e_vret (hd : decode mr.2.1 pc = .ok (.return_, 1)) (hr : mr.2.2.2.1 = none) (hc : c = mr.2.2.2.2.1 ∧ s ≤ mr.2.2.2.2.2.1) (q : Q none σ) : Ev X c s d mr pc L [] σ Q := e_ret hd rfl (by simp only [rtn, hr]) hc q
theorem e_call {dd : Nat} {ins : Instr} {len : Nat} {mr' : MRec} {As r : List AV} {Qc : Option AV → SG → Prop} (hd : decode mr.2.1 pc = .ok (ins, len)) (hlen : lenOK ins len = true) (hp : pc + 3 = pc') (hr : rtn mr ins S = none) (hs : stp X mr (dd + 1) ins pc L S (mem σ) c s = none) (hc : cal mr ins S (mem σ) = some (mr', As, r)) (hL : argL As mr'.2.2.1 = L') (hl2 : L'.length = mr'.2.2.1) (h0 : mr'.2.2.2.2.1 = 0 ∧ mr'.2.2.2.2.2.1 = 0) (hcc : c ≤ mr.2.2.2.2.1 ∧ s ≤ mr.2.2.2.2.2.1) (E : Ev X 0 0 dd mr' 0 L' [] σ Qc) (K : ∀ v σ', Qc v σ' → Ev X c s (dd + 1) mr pc' L (v.toList ++ r) σ' Q) : Ev X c s (dd + 1) mr pc L S σ Q := by
  subst hp
  obtain ⟨n1, v, σ1, h1, q1⟩ := E
  obtain ⟨n2, w, σ2, h2, q2⟩ := K v σ1 q1
  refine ⟨max n1 n2 + 1, w, σ2, ?_, q2⟩
  unfold run
  rw [hd]
  simp only [hlen, if_true, hr, hs, hc, hL, hl2, h0, Nat.add_zero, hcc, and_self]
  rw [run_mono n1 h1 (Nat.le_max_left _ _)]
  exact run_mono n2 h2 (Nat.le_max_right _ _)
end EVM
