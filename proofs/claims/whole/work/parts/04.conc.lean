/-! what the interpreter's words mean on the machine -/
abbrev GB : Type := Nat × Nat × Nat
def cV (G : GB) (v : AV) : Value := match v with
  | .inl z => .int (Int32.ofInt z)
  | .inr (.inl z) => .long z
  | .inr (.inr (.inl k)) => .ref (G.1 + k)
  | .inr (.inr (.inr 0)) => .null
  | .inr (.inr (.inr 1)) => .ref G.2.1
  | .inr (.inr (.inr _)) => .ref G.2.2
theorem cV_cat (G : GB) (v : AV) : (cV G v).category = cat v := by
  rcases v with z | z | z | z
  · rfl
  · rfl
  · rfl
  · match z with
    | 0 => rfl
    | 1 => rfl
    | _ + 2 => rfl
def cE (G : GB) (tyc : Nat → ClassId) (e : AE) : va_E := match e with
  | .inl (t, n, .inl f) => .inl (tyc t, n, .inl (fun j => Int32.ofInt (f j)))
  | .inl (t, n, .inr (.inl f)) => .inl (tyc t, n, .inr (.inl (fun j => f j)))
  | .inl (t, n, .inr (.inr f)) => .inl (tyc t, n, .inr (.inr (.inr (.inr (fun j => (f j).map (fun k => G.1 + k))))))
  | .inr (ci, fs) => .inr (ci, fs.map (cV G))
def cW (G : GB) (tyc : Nat → ClassId) (M : AM) : va_W := M.mapIdx (fun k e => (G.1 + k, cE G tyc e))
theorem cW_get {G : GB} {tyc : Nat → ClassId} {M : AM} {k : Nat} {e : AE} (h : M[k]? = some e) : (cW G tyc M)[k]? = some (G.1 + k, cE G tyc e) := by
  simp [cW, List.getElem?_mapIdx, h]
theorem cW_inv {G : GB} {tyc : Nat → ClassId} {M : AM} {k : Nat} {q : Nat × va_E} (h : (cW G tyc M)[k]? = some q) : ∃ e, M[k]? = some e ∧ q = (G.1 + k, cE G tyc e) := by
  simp only [cW, List.getElem?_mapIdx] at h
  cases hm : M[k]? with
  | none => rw [hm] at h; cases h
  | some e => rw [hm] at h; exact ⟨e, rfl, (Option.some.inj h).symm⟩
theorem cW_set {G : GB} {tyc : Nat → ClassId} {M : AM} {k : Nat} {e : AE} : (cW G tyc M).set k (G.1 + k, cE G tyc e) = cW G tyc (M.set k e) := by
  apply List.ext_getElem?
  intro i
  simp only [cW, List.getElem?_set, List.getElem?_mapIdx, List.length_mapIdx]
  by_cases h : k = i
  · subst h
    by_cases hk : k < M.length
    · simp [hk]
    · simp [hk]
  · simp [h]
theorem cW_app {G : GB} {tyc : Nat → ClassId} {M : AM} {e : AE} : cW G tyc (M ++ [e]) = cW G tyc M ++ [(G.1 + M.length, cE G tyc e)] := by
  simp [cW, List.mapIdx_append]
theorem cW_D {G : GB} {tyc : Nat → ClassId} {M : AM} : va_D (fun q => G.1 ≤ q) (cW G tyc M) := by
  refine ⟨fun i j p q hp hq h => ?_, fun k q hq => ?_⟩
  · obtain ⟨_, -, rfl⟩ := cW_inv hp
    obtain ⟨_, -, rfl⟩ := cW_inv hq
    simp only at h
    omega
  · obtain ⟨_, -, rfl⟩ := cW_inv hq
    simp
abbrev tysOf (tyc : Nat → ClassId) : List (ClassId × FieldType) := [(tyc 0, .int), (tyc 1, .long), (tyc 2, .boolean), (tyc 3, .object "GiftMatch$Rule"), (tyc 4, .object "GiftMatch$Scene")]
def lh (G : GB) (ls : Array Slot) (nL : Nat) (L : AL) : Prop := ls.size = nL ∧ lv_wf ls ∧ ∀ (i : Nat) (v : AV), L[i]? = some (some v) → ls[i]? = some (.val (cV G v))
def prs (G : GB) (L : AL) : List (Nat × Value) := (List.range L.length).filterMap (fun i => match L[i]? with
  | some (some v) => some (i, cV G v)
  | _ => none)
theorem mem_prs {G : GB} {L : AL} {q : Nat × Value} : q ∈ prs G L ↔ ∃ v, L[q.1]? = some (some v) ∧ q.2 = cV G v := by
  simp only [prs, List.mem_filterMap, List.mem_range]
  constructor
  · rintro ⟨i, hi, h⟩
    split at h
    · next v hv => cases h; exact ⟨v, hv, rfl⟩
    · cases h
  · rintro ⟨v, hv, h⟩
    refine ⟨q.1, (List.getElem?_eq_some_iff.mp hv).1, ?_⟩
    rw [hv]
    simp only
    rw [← h]
theorem lh_has {G : GB} {ls : Array Slot} {nL : Nat} {L : AL} (h : lh G ls nL L) : lv_has ls nL (prs G L) := by
  refine ⟨h.1, h.2.1, fun q hq => ?_⟩
  obtain ⟨v, hv, hw⟩ := mem_prs.mp hq
  rw [hw]
  exact h.2.2 _ _ hv
theorem clr_inv {L : AL} {i j : Nat} {w : AV} (h : (clr L i)[j]? = some (some w)) : L[j]? = some (some w) ∧ ¬ (j + 1 = i ∧ cat w = 2) := by
  unfold clr at h
  cases i with
  | zero => exact ⟨h, fun q => by omega⟩
  | succ k =>
    simp only at h
    split at h
    · next z hz =>
      rw [List.getElem?_set] at h
      by_cases hk : k = j
      · subst hk
        rw [if_pos rfl] at h
        split at h <;> cases h
      · rw [if_neg hk] at h
        exact ⟨h, fun q => hk (by omega)⟩
    · next hz =>
      refine ⟨h, fun q => ?_⟩
      have : j = k := by omega
      subst this
      rcases w with w | w | w | w
      · simp [cat] at q
      · exact hz w h
      · simp [cat] at q
      · simp [cat] at q
theorem has_lh1 {G : GB} {ls : Array Slot} {nL : Nat} {L : AL} {i : Nat} {v : AV} (h : lv_has ls nL ((i, cV G v) :: (prs G L).filter (fun q => !(q.1 == i) && !(q.1 + 1 == i && q.2.category == 2)))) : lh G ls nL (st1 L i v) := by
  refine ⟨h.1, h.2.1, fun j w hj => ?_⟩
  unfold st1 at hj
  rw [List.getElem?_set] at hj
  by_cases hk : i = j
  · subst hk
    rw [if_pos rfl] at hj
    split at hj
    · cases hj
      exact h.2.2 _ List.mem_cons_self
    · cases hj
  · rw [if_neg hk] at hj
    obtain ⟨h1, h2⟩ := clr_inv hj
    refine h.2.2 (j, cV G w) (List.mem_cons_of_mem _ (List.mem_filter.mpr ⟨mem_prs.mpr ⟨w, h1, rfl⟩, ?_⟩))
    simp only [Bool.and_eq_true, Bool.not_eq_true', beq_eq_false_iff_ne, Bool.and_eq_false_iff, ne_eq]
    refine ⟨fun q => hk q.symm, ?_⟩
    rw [cV_cat]
    by_cases hc : j + 1 = i
    · right
      exact fun q => h2 ⟨hc, q⟩
    · left; exact hc
theorem has_lh2 {G : GB} {ls : Array Slot} {nL : Nat} {L : AL} {i : Nat} {v : AV} (h : lv_has ls nL ((i, cV G v) :: (prs G L).filter (fun q => !(q.1 == i) && (!(q.1 == i + 1) && !(q.1 + 1 == i && q.2.category == 2))))) : lh G ls nL (st2 L i v) := by
  refine ⟨h.1, h.2.1, fun j w hj => ?_⟩
  unfold st2 at hj
  rw [List.getElem?_set] at hj
  by_cases hk1 : i + 1 = j
  · subst hk1
    rw [if_pos rfl] at hj
    split at hj <;> cases hj
  · rw [if_neg hk1, List.getElem?_set] at hj
    by_cases hk : i = j
    · subst hk
      rw [if_pos rfl] at hj
      split at hj
      · cases hj
        exact h.2.2 _ List.mem_cons_self
      · cases hj
    · rw [if_neg hk] at hj
      obtain ⟨h1, h2⟩ := clr_inv hj
      refine h.2.2 (j, cV G w) (List.mem_cons_of_mem _ (List.mem_filter.mpr ⟨mem_prs.mpr ⟨w, h1, rfl⟩, ?_⟩))
      simp only [Bool.and_eq_true, Bool.not_eq_true', beq_eq_false_iff_ne, Bool.and_eq_false_iff, ne_eq]
      refine ⟨fun q => hk q.symm, fun q => hk1 q.symm, ?_⟩
      rw [cV_cat]
      by_cases hc : j + 1 = i
      · right
        exact fun q => h2 ⟨hc, q⟩
      · left; exact hc
def HW (G : GB) (D : va_G) (tyc : Nat → ClassId) (M : AM) (H : Heap) : Prop := H.size = G.1 + M.length ∧ va_P D clsT (cW G tyc M) H
abbrev AB (G : GB) : Nat → Prop := fun q => G.1 ≤ q
/-- what a method's own state says -/
def St (G : GB) (D : va_G) (tyc : Nat → ClassId) (X : AX) (s : State) : Prop := va_K D clsT (tysOf tyc) s ∧ (∀ w ∈ nestT, va_Nw w s) ∧ va_AO "GiftMatch$Rule" s ∧ va_AO "GiftMatch$Scene" s ∧ va_Z "GiftMatch" "ROOTS" "[I" (.ref G.2.1) (AB G) s s.heap ∧ va_T .int G.2.1 13 (fun j => .int (Int32.ofInt (rootZ j))) (AB G) s s.heap ∧ va_X G.2.2 X.1 X.2 s s.heap ∧ G.2.2 < G.1 ∧ G.1 ≤ s.heap.size ∧ X.1 ≤ 2560
def Cx (p : Program) (R : Room) (s : State) (m : MethodId) (args : Array Value) (meth : Method) (c : Code) (mr : MRec) (G : GB) (D : va_G) (tyc : Nat → ClassId) (X : AX) (d : Nat) : Prop :=
  p.tables.exec = Jvm.exec ∧ c.code = mr.2.1 ∧ c.maxLocals = mr.2.2.1 ∧ s.vm.findClass (own mr.2.2.2.2.2.2) = some m.cls ∧ (∀ w ∈ gtbl, w.before args s = true) ∧ St G D tyc X s ∧ (mr.1.name = "<init>" → meth.name = "<init>") ∧ d ≤ R.frames ∧ 41 * d ≤ R.locals ∧ mr.2.2.2.2.1 ≤ R.cells ∧ mr.2.2.2.2.2.1 ≤ R.slots
theorem fld_ok {oc idx ci j : Nat} (h : fld oc idx = some (ci, j)) : ∃ (C : String) (T : u_T) (N : Nat), clsT[ci]? = some (C, T, N) ∧ j < N ∧ Cond.fieldLink (own oc) idx (T j).1 (T j).2.1 (T j).2.2.1 ∈ gtbl ∧ parseFieldDescriptor (T j).2.2.1 = some (tyT ci j) := by
  have hall : ∀ e ∈ flT oc, flK oc e = true := by
    unfold flT
    match oc with
    | 0 => exact List.all_eq_true.mp flT0_ok
    | 1 => exact List.all_eq_true.mp flT1_ok
    | 2 => exact List.all_eq_true.mp flT2_ok
    | 3 => exact List.all_eq_true.mp flT3_ok
    | 4 => exact List.all_eq_true.mp flT4_ok
    | 5 => exact List.all_eq_true.mp flT5_ok
    | 6 => exact List.all_eq_true.mp flT6_ok
    | 7 => exact List.all_eq_true.mp flT7_ok
    | 8 => exact List.all_eq_true.mp flT8_ok
    | 9 => exact List.all_eq_true.mp flT9_ok
    | 10 => exact List.all_eq_true.mp flT10_ok
    | 11 => exact List.all_eq_true.mp flT11_ok
    | _ + 12 => exact fun e he => absurd he List.not_mem_nil
  unfold fld at h
  cases hf : (flT oc).find? (fun e => e.1 == idx) with
  | none => rw [hf] at h; cases h
  | some e =>
    rw [hf] at h
    have h1 := hall e (List.mem_of_find?_eq_some hf)
    have h2 : e.1 = idx := by simpa using List.find?_some hf
    obtain ⟨e1, e2, e3, e4⟩ := e
    simp only [Option.map_some, Option.some.injEq, Prod.mk.injEq] at h
    obtain ⟨rfl, rfl⟩ := h
    simp only at h2
    subst h2
    unfold flK at h1
    simp only at h1
    split at h1
    · next C T N hc =>
      simp only [Bool.and_eq_true, decide_eq_true_eq] at h1
      exact ⟨C, T, N, hc, h1.1.2, in_g (List.mem_of_getElem? h1.1.1) rfl, h1.2⟩
    · cases h1
theorem u_in {ci : Nat} {C : String} {T : u_T} {N : Nat} (h : clsT[ci]? = some (C, T, N)) : (∀ w ∈ u_ws C T N, w ∈ gtbl) ∧ (∀ k, k < N → parseFieldDescriptor (T k).2.2.1 = some (tyT ci k)) ∧ (∀ a, a < N → ∀ b, b < N → a ≠ b → (T a).2.1 ≠ (T b).2.1) := by
  have gg : ∀ {C T N}, (∀ w ∈ u_ws C T N, w ∈ lw_tbl) → ∀ w ∈ u_ws C T N, w ∈ gtbl := by
    intro C T N h w hw
    refine in_g (h w hw) ?_
    obtain ⟨k, -, rfl⟩ := List.mem_map.mp hw
    unfold u_lay
    split <;> rfl
  unfold clsT at h
  match ci, h with
  | 0, h => cases h; exact ⟨gg uin0, tyX0_ok, nmX0⟩
  | 1, h => cases h; exact ⟨gg uin1, tyX1_ok, nmX1⟩
  | 2, h => cases h; exact ⟨gg uin2, tyX2_ok, nmX2⟩
  | 3, h => cases h; exact ⟨gg uin3, tyX3_ok, nmX3⟩
  | 4, h => cases h; exact ⟨gg uin4, tyX4_ok, nmX4⟩
  | 5, h => cases h; exact ⟨gg uin5, tyX5_ok, nmX5⟩
  | 6, h => cases h; exact ⟨gg uin6, tyX6_ok, nmX6⟩
  | 7, h => cases h; exact ⟨gg uin7, tyX7_ok, nmX7⟩
  | 8, h => cases h; exact ⟨gg uin8, tyX8_ok, nmX8⟩
  | 9, h => cases h; exact ⟨gg uin9, tyX9_ok, nmX9⟩
  | 10, h => cases h; exact ⟨gg uin10, tyX10_ok, nmX10⟩
  | 11, h => cases h; exact ⟨gg uin11, tyX11_ok, nmX11⟩
  | k + 12, h => simp at h
theorem lcn_ok {oc idx : Nat} {v : Int64} (h : lcn oc idx = some v) : Cond.constantLong (own oc) idx v ∈ gtbl := by
  unfold lcn at h
  cases hf : lcT.find? (fun e => e.1 == oc && e.2.1 == idx) with
  | none => rw [hf] at h; cases h
  | some e =>
    rw [hf] at h
    have h1 := List.all_eq_true.mp lcT_ok e (List.mem_of_find?_eq_some hf)
    have h2 : e.1 = oc ∧ e.2.1 = idx := by simpa using List.find?_some hf
    simp only [decide_eq_true_eq] at h1
    rw [h2.1, h2.2] at h1
    cases h
    exact in_g (List.mem_of_getElem? h1) rfl
theorem sp_ok {oc idx k q : Nat} (h : sp oc idx = some (k, q)) : Cond.methodLink (own oc) idx (spN k) ∈ gtbl := by
  unfold sp at h
  cases hf : spT.find? (fun e => e.1 == oc && e.2.1 == idx) with
  | none => rw [hf] at h; cases h
  | some e =>
    rw [hf] at h
    have h1 := List.all_eq_true.mp spT_ok e (List.mem_of_find?_eq_some hf)
    have h2 : e.1 = oc ∧ e.2.1 = idx := by simpa using List.find?_some hf
    simp only [Bool.and_eq_true, decide_eq_true_eq] at h1
    rw [h2.1, h2.2] at h1
    cases h
    exact in_g (List.mem_of_getElem? h1.1) rfl
theorem nwc_ok {oc idx ci : Nat} (h : nwc oc idx = some ci) : ∃ (C : String) (T : u_T) (N : Nat), clsT[ci]? = some (C, T, N) ∧ Cond.classLink (own oc) idx C ∈ gtbl ∧ Cond.instantiable C N ∈ gtbl ∧ Cond.initialized C ∈ gtbl := by
  unfold nwc at h
  cases hf : nwT.find? (fun e => e.1 == oc && e.2.1 == idx) with
  | none => rw [hf] at h; cases h
  | some e =>
    rw [hf] at h
    have h1 := List.all_eq_true.mp nwT_ok e (List.mem_of_find?_eq_some hf)
    have h2 : e.1 = oc ∧ e.2.1 = idx := by simpa using List.find?_some hf
    cases h
    unfold nwK at h1
    split at h1
    · next C T N hc =>
      simp only [Bool.and_eq_true, decide_eq_true_eq] at h1
      rw [h2.1, h2.2] at h1
      exact ⟨C, T, N, hc, in_g (List.mem_of_getElem? h1.1.1) rfl, in_g (List.mem_of_getElem? h1.1.2) rfl, in_g (List.mem_of_getElem? h1.2) rfl⟩
    · cases h1
theorem anc_ok {oc idx ci t : Nat} (h : anc oc idx = some (ci, t)) : ∃ C : String, Cond.classLink (own oc) idx C ∈ gtbl ∧ ((C = "GiftMatch$Rule" ∧ t = 3) ∨ (C = "GiftMatch$Scene" ∧ t = 4)) := by
  unfold anc at h
  cases hf : anT.find? (fun e => e.1 == oc && e.2.1 == idx) with
  | none => rw [hf] at h; cases h
  | some e =>
    rw [hf] at h
    have h1 := List.all_eq_true.mp anT_ok e (List.mem_of_find?_eq_some hf)
    have h2 : e.1 = oc ∧ e.2.1 = idx := by simpa using List.find?_some hf
    cases h
    unfold anK at h1
    split at h1
    · next C T N hc =>
      simp only [Bool.and_eq_true, decide_eq_true_eq, Bool.or_eq_true] at h1
      rw [h2.1, h2.2] at h1
      refine ⟨C, in_g (List.mem_of_getElem? h1.1.1) rfl, ?_⟩
      rcases h1.2 with ⟨a, b⟩ | ⟨a, b⟩
      · rw [a] at hc; cases hc; exact Or.inl ⟨rfl, b⟩
      · rw [a] at hc; cases hc; exact Or.inr ⟨rfl, b⟩
    · cases h1
