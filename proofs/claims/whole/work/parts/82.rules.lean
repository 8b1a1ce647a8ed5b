/-! what a rule's steps are; turns keep a scene -/
def stQ (s : RS) : Prop := (∀ x ∈ s.1, -1000 ≤ x ∧ x ≤ 999999) ∧ (0 < s.2.2.2.1 → ∃ a l, s.1 = a :: l ∧ 0 ≤ a ∧ a < 10 ^ s.2.2.2.1.toNat)
theorem adL_q {x : Int} {l : List Int} (h : ∀ y ∈ l, -1000 ≤ y ∧ y ≤ 999999) (hx : -1000 ≤ x ∧ x ≤ 999999) : ∀ y ∈ adL x l, -1000 ≤ y ∧ y ≤ 999999 := by
  unfold adL
  split
  · intro y q
    cases q with
    | head => exact hx
    | tail _ q => exact h y q
  · exact h
theorem rlS_q (k : Int) : ∀ (wt st : List Int), (∀ y ∈ st, -1000 ≤ y ∧ y ≤ 999999) → (∀ x ∈ wt, chr7 x) → ∀ y ∈ (rlS k wt st).2, -1000 ≤ y ∧ y ≤ 999999
  | [], st, h, _ => h
  | w :: ws, st, h, hw => by
    unfold rlS
    split
    · have h7 := hw w List.mem_cons_self
      exact rlS_q k ws _ (adL_q h ⟨by have := h7.2; omega, by have := h7.1; omega⟩) (fun x q => hw x (List.mem_cons_of_mem _ q))
    · exact h
theorem chS_q {s : RS} (h : stQ s) (ho : rsOK s) (hln : s.1.length < 40) {p c : Int} (hc : chr7 c) : stQ (chS s p c) := by
  obtain ⟨st, wt, br, dg, wu, fl⟩ := s
  obtain ⟨h1, h2⟩ := h
  obtain ⟨o1, o2, o3, o4, o5, o6, o7⟩ := ho
  have hc1 := hc.1
  have hc2 := hc.2
  simp only at h1 h2 o1 o2 o3 o4 o5 o6 o7
  have no : ∀ {a : List Int} {b : List Int} {x y z : Int}, (∀ q ∈ a, -1000 ≤ q ∧ q ≤ 999999) → stQ (a, b, x, 0, y, z) := fun h => ⟨h, fun q => absurd q (by show ¬ (0 : Int) < 0; decide)⟩
  unfold chS
  split
  · next hd =>
    unfold dgS
    dsimp only
    split
    · exact ⟨h1, h2⟩
    · next h6 =>
      split
      · next hp =>
        obtain ⟨a, l, e, a0, a1⟩ := h2 hp.1
        subst e
        refine ⟨fun x q => ?_, fun _ => ⟨10 * a + (c - 48), l, rfl, by omega, ?_⟩⟩
        · cases q with
          | head =>
            have hd5 : dg = 1 ∨ dg = 2 ∨ dg = 3 ∨ dg = 4 ∨ dg = 5 := by omega
            show -1000 ≤ 10 * a + (c - 48) ∧ 10 * a + (c - 48) ≤ 999999
            rcases hd5 with e | e | e | e | e <;> subst e <;> simp only [Int.reduceToNat, Int.reducePow] at a1 <;> omega
          | tail _ q => exact h1 x (List.mem_cons_of_mem _ q)
        · show 10 * a + (c - 48) < 10 ^ (dg + 1).toNat
          rw [show (dg + 1).toNat = dg.toNat + 1 by omega, Int.pow_succ]
          omega
      · split
        · exact ⟨h1, h2⟩
        · refine ⟨adL_q h1 ⟨by omega, by omega⟩, fun _ => ⟨c - 48, st, ?_, by omega, by show c - 48 < 10 ^ 1; omega⟩⟩
          exact adL_c hln
  · next hd =>
    split
    · exact no h1
    · have hfl : ∀ (q : RS × Int), (∀ x ∈ q.1.1, -1000 ≤ x ∧ x ≤ 999999) → q.1.2.2.2.1 = 0 → stQ (flS q p) := by
        intro q hq h0
        unfold flS
        split
        · exact ⟨hq, fun z => absurd z (by show ¬ 0 < q.1.2.2.2.1; omega)⟩
        · exact ⟨hq, fun z => absurd z (by omega)⟩
      dsimp only
      split
      · unfold d0S buS
        dsimp only
        split
        · unfold cbS
          dsimp only
          split
          · exact hfl _ h1 rfl
          · exact hfl _ (rlS_q 1 wt st h1 o7) rfl
        · split
          · exact hfl _ h1 rfl
          · split
            · exact hfl _ (rlS_q _ wt st h1 o7) rfl
            · exact hfl _ (rlS_q _ wt st h1 o7) rfl
      · unfold d0S cuS
        dsimp only
        split
        · exact hfl _ (adL_q h1 ⟨by omega, by omega⟩) rfl
        · split
          · exact hfl _ h1 rfl
          · split
            · exact hfl _ h1 rfl
            · split
              · split
                · exact hfl _ h1 rfl
                · exact hfl _ h1 rfl
              · exact hfl _ h1 rfl
theorem adL_le (x : Int) (l : List Int) : (adL x l).length ≤ l.length + 1 := by
  unfold adL
  split
  · exact Nat.le_refl _
  · omega
theorem rlS_ln (k : Int) : ∀ (wt st : List Int), (rlS k wt st).2.length + (rlS k wt st).1.length ≤ st.length + wt.length
  | [], st => Nat.le_refl _
  | w :: ws, st => by
    have hl : (w :: ws).length = ws.length + 1 := rfl
    have ha := adL_le (-w) st
    unfold rlS
    split
    · have := rlS_ln k ws (adL (-w) st)
      omega
    · exact Nat.le_refl _
theorem flS_ln (q : RS × Int) (p : Int) : (flS q p).1.length + (flS q p).2.1.length = q.1.1.length + q.1.2.1.length := by
  unfold flS
  split <;> rfl
theorem chS_ln (s : RS) (p c : Int) : (chS s p c).1.length + (chS s p c).2.1.length ≤ s.1.length + s.2.1.length + 1 := by
  obtain ⟨st, wt, br, dg, wu, fl⟩ := s
  have a1 := adL_le (c - 48) st
  have a2 := adL_le (-c) st
  have a3 := adL_le 33 wt
  have a4 := adL_le 126 wt
  have a5 := adL_le 40 wt
  have r1 := rlS_ln 1 wt st
  have r2 := rlS_ln (krS c) wt st
  have a6 := adL_le c (rlS (krS c) wt st).1
  have t1 : (rlS 1 wt st).1.tail.length ≤ (rlS 1 wt st).1.length := by rw [List.length_tail]; omega
  unfold chS
  split
  · unfold dgS
    dsimp only
    split
    · show st.length + wt.length ≤ st.length + wt.length + 1; omega
    · split
      · next hp =>
        show (st.tail.length + 1) + wt.length ≤ st.length + wt.length + 1
        rw [List.length_tail]; omega
      · split
        · show st.length + wt.length ≤ st.length + wt.length + 1; omega
        · show (adL (c - 48) st).length + wt.length ≤ st.length + wt.length + 1; omega
  · split
    · show st.length + wt.length ≤ st.length + wt.length + 1; omega
    · dsimp only
      split
      · rw [flS_ln]
        unfold d0S buS
        dsimp only
        split
        · unfold cbS
          dsimp only
          split
          · show st.length + wt.length ≤ st.length + wt.length + 1; omega
          · show (rlS 1 wt st).2.length + (rlS 1 wt st).1.tail.length ≤ st.length + wt.length + 1; omega
        · split
          · show st.length + wt.length ≤ st.length + wt.length + 1; omega
          · split
            · show (rlS (krS c) wt st).2.length + (rlS (krS c) wt st).1.length ≤ st.length + wt.length + 1; omega
            · show (rlS (krS c) wt st).2.length + (adL c (rlS (krS c) wt st).1).length ≤ st.length + wt.length + 1; omega
      · rw [flS_ln]
        unfold d0S cuS
        dsimp only
        split
        · show (adL (-c) st).length + wt.length ≤ st.length + wt.length + 1; omega
        · split
          · show st.length + (adL 33 wt).length ≤ st.length + wt.length + 1; omega
          · split
            · show st.length + (adL 126 wt).length ≤ st.length + wt.length + 1; omega
            · split
              · split
                · show st.length + (adL 40 wt).length ≤ st.length + wt.length + 1; omega
                · show st.length + wt.length ≤ st.length + wt.length + 1; omega
              · show st.length + wt.length ≤ st.length + wt.length + 1; omega
theorem rdS_q {T : Int → Int} (hT : ∀ j, 0 ≤ j → j < 40 → chr7 (T j)) : ∀ n : Nat, n ≤ 40 → stQ (rdS T n) ∧ (rdS T n).1.length + (rdS T n).2.1.length ≤ n
  | 0, _ => ⟨⟨(fun x q => by cases q), (fun q => absurd q (by show ¬ (0 : Int) < 0; decide))⟩, Nat.le_refl _⟩
  | n + 1, h => by
    have ih := rdS_q hT n (by omega)
    have ho := rdS_ok hT n (by omega)
    unfold rdS
    split
    · refine ⟨chS_q ih.1 ho (by omega) (hT n (by omega) (by omega)), ?_⟩
      have := chS_ln (rdS T n) n (T n)
      omega
    · exact ⟨ih.1, by omega⟩
theorem isLst_rg {f : Int → Int} {P : Int → Prop} : ∀ {l : List Int}, isLst f l → (∀ x ∈ l, P x) → ∀ j : Int, 0 ≤ j → j < (l.length : Int) → P (f j)
  | [], _, _, j, a, b => absurd b (by show ¬ j < 0; omega)
  | v :: r, h, hp, j, a, b => by
    have hl : ((v :: r).length : Int) = (r.length : Int) + 1 := rfl
    by_cases e : j = (r.length : Int)
    · rw [e, h.1]; exact hp v List.mem_cons_self
    · exact isLst_rg h.2 (fun x q => hp x (List.mem_cons_of_mem _ q)) j a (by omega)
theorem Ru_Rl {σ : SG} {r : Nat} (h : RuI σ r) : RlOK σ r := by
  obtain ⟨nn, h1, h2, h3, h4, h5, h6⟩ := h
  have ho := rdS_ok h3 nn h1
  have hq := rdS_q h3 nn h1
  have hr := rlS_ok 1 _ _ ho.1 ho.2.1 ho.2.2.2.2.2.2
  have hx := rlS_q 1 _ _ hq.1.1 ho.2.2.2.2.2.2
  have h6' := ho.2.2.2.2.2.1
  refine ⟨?_, ?_, ?_⟩
  · rw [h5]
    have hn : rg (10 * (nn : Int) + 1) := ⟨by omega, by omega⟩
    have hf : rg (rdS (σ.1 (r + 1)) nn).2.2.2.2.2 := ⟨by omega, by omega⟩
    unfold fnS
    dsimp only
    split
    · exact hn
    · exact hf
  · rw [h4]
    have : (fnS (σ.1 (r + 1)) nn).1.length ≤ 40 := hr.1
    omega
  · intro j a c
    rw [h4] at c
    exact isLst_rg h6 hx j a c
