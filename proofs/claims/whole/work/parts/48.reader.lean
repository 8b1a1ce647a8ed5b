/-! the reader of rules: its state is (steps, last first; signs that wait, top first; brackets; digits; wants a unit; flaw) -/
def isLst (f : Int → Int) : List Int → Prop
  | [] => True
  | v :: r => f (r.length : Int) = v ∧ isLst f r
theorem isLst_up {f : Int → Int} {v : Int} : ∀ {st : List Int} {i : Int}, (st.length : Int) ≤ i → isLst f st → isLst (fun j => if j = i then v else f j) st
  | [], _, _, _ => trivial
  | w :: r, i, hi, h => by
    have hi2 : ((r.length + 1 : Nat) : Int) ≤ i := hi
    refine ⟨?_, isLst_up (by omega) h.2⟩
    show (if (r.length : Int) = i then v else f r.length) = w
    rw [if_neg (by omega)]
    exact h.1
theorem isLst_upI {σ : SG} {q : Nat} {v : Int} {st : List Int} {i : Int} (hi : (st.length : Int) ≤ i) (h : isLst (σ.1 q) st) : isLst ((upI σ q i v).1 q) st := by
  have e : (upI σ q i v).1 q = fun j => if j = i then v else σ.1 q j := by funext j; simp only [upI, true_and]
  rw [e]
  exact isLst_up hi h
def rkS (s : Int) : Int := if s = 124 then 1 else if s = 38 then 2 else if s = 60 ∨ s = 62 ∨ s = 61 then 3 else if s = 43 ∨ s = 45 then 4 else if s = 42 ∨ s = 47 then 5 else if s = 33 ∨ s = 126 then 6 else 0
theorem rkS_rg (s : Int) : 0 ≤ rkS s ∧ rkS s ≤ 6 := by
  unfold rkS
  repeat' split
  all_goals decide
def krS (c : Int) : Int := if rkS c = 3 then 4 else rkS c
def adL (x : Int) (l : List Int) : List Int := if l.length < 40 then x :: l else l
theorem adL_len {x : Int} {l : List Int} (h : l.length ≤ 40) : (adL x l).length ≤ 40 := by
  unfold adL
  split
  · show l.length + 1 ≤ 40; omega
  · exact h
/-- signs that bind as tightly become steps -/
def rlS (k : Int) : List Int → List Int → List Int × List Int
  | [], st => ([], st)
  | w :: ws, st => if k ≤ rkS w then rlS k ws (adL (-w) st) else (w :: ws, st)
abbrev RS : Type := List Int × List Int × Int × Int × Int × Int
def RsI (σ : SG) (r : Nat) (n : Int) (s : RS) : Prop := σ.1 35 1 = (s.2.1.length : Int) ∧ σ.1 35 2 = s.2.2.1 ∧ σ.1 35 3 = s.2.2.2.1 ∧ σ.1 35 4 = s.2.2.2.2.1 ∧ isLst (σ.1 36) s.2.1 ∧ σ.1 r 3 = (s.1.length : Int) ∧ σ.1 r 4 = s.2.2.2.2.2 ∧ isLst (σ.1 (r + 2)) s.1 ∧ σ.1 r 2 = n
def chr7 (x : Int) : Prop := 0 ≤ x ∧ x ≤ 127
def rsOK (s : RS) : Prop := s.1.length ≤ 40 ∧ s.2.1.length ≤ 40 ∧ (0 ≤ s.2.2.1 ∧ s.2.2.1 ≤ 8) ∧ (0 ≤ s.2.2.2.1 ∧ s.2.2.2.1 ≤ 6) ∧ (s.2.2.2.2.1 = 0 ∨ s.2.2.2.2.1 = 1) ∧ (-1000 ≤ s.2.2.2.2.2 ∧ s.2.2.2.2.2 ≤ 1000) ∧ ∀ x ∈ s.2.1, chr7 x
def dgS (s : RS) (p x : Int) : RS := if s.2.2.2.1 = 6 then (s.1, s.2.1, s.2.2.1, s.2.2.2.1, s.2.2.2.2.1, 10 * (p - 6) + 2) else if 0 < s.2.2.2.1 ∧ 0 < s.1.length then ((10 * s.1.headD 0 + x) :: s.1.tail, s.2.1, s.2.2.1, s.2.2.2.1 + 1, s.2.2.2.2.1, s.2.2.2.2.2) else if s.2.2.2.2.1 = 0 then (s.1, s.2.1, s.2.2.1, s.2.2.2.1, s.2.2.2.2.1, 10 * p + 1) else (adL x s.1, s.2.1, s.2.2.1, 1, 0, s.2.2.2.2.2)
def cuS (s : RS) (p c : Int) : RS × Int := if c = 115 ∨ c = 110 ∨ c = 109 ∨ c = 108 ∨ c = 114 then ((adL (-c) s.1, s.2.1, s.2.2.1, s.2.2.2.1, 0, s.2.2.2.2.2), 1) else if c = 33 then ((s.1, adL 33 s.2.1, s.2.2.1, s.2.2.2.1, s.2.2.2.2.1, s.2.2.2.2.2), 1) else if c = 45 then ((s.1, adL 126 s.2.1, s.2.2.1, s.2.2.2.1, s.2.2.2.2.1, s.2.2.2.2.2), 1) else if c = 40 then (if s.2.2.1 < 8 then ((s.1, adL 40 s.2.1, s.2.2.1 + 1, s.2.2.2.1, s.2.2.2.2.1, s.2.2.2.2.2), 1) else ((s.1, s.2.1, s.2.2.1, s.2.2.2.1, s.2.2.2.2.1, 10 * p + 3), 0)) else (s, 0)
def cbS (s : RS) : RS × Int := if s.2.2.1 = 0 then (s, 0) else (((rlS 1 s.2.1 s.1).2, (rlS 1 s.2.1 s.1).1.tail, s.2.2.1 - 1, s.2.2.2.1, s.2.2.2.2.1, s.2.2.2.2.2), 1)
def lrS : List Int → Int
  | [] => 0
  | w :: _ => rkS w
def buS (s : RS) (c : Int) : RS × Int := if c = 41 then cbS s else if rkS c = 0 ∨ rkS c = 6 then (s, 0) else if rkS c = 3 ∧ lrS (rlS (krS c) s.2.1 s.1).1 = 3 then (((rlS (krS c) s.2.1 s.1).2, (rlS (krS c) s.2.1 s.1).1, s.2.2.1, s.2.2.2.1, s.2.2.2.2.1, s.2.2.2.2.2), 0) else (((rlS (krS c) s.2.1 s.1).2, adL c (rlS (krS c) s.2.1 s.1).1, s.2.2.1, s.2.2.2.1, 1, s.2.2.2.2.2), 1)
def flS (q : RS × Int) (p : Int) : RS := if q.2 = 0 ∧ q.1.2.2.2.2.2 = -1 then (q.1.1, q.1.2.1, q.1.2.2.1, q.1.2.2.2.1, q.1.2.2.2.2.1, 10 * p + 1) else q.1
def d0S (s : RS) : RS := (s.1, s.2.1, s.2.2.1, 0, s.2.2.2.2.1, s.2.2.2.2.2)
def chS (s : RS) (p c : Int) : RS := if 48 ≤ c ∧ c ≤ 57 then dgS s p (c - 48) else if c = 32 then d0S s else if s.2.2.2.2.1 = 0 then flS (buS (d0S s) c) p else flS (cuS (d0S s) p c) p
def rdS (T : Int → Int) : Nat → RS
  | 0 => ([], [], 0, 0, 1, -1)
  | n + 1 => if (rdS T n).2.2.2.2.2 = -1 then chS (rdS T n) n (T n) else rdS T n
def fnS (T : Int → Int) (n : Nat) : RS := ((rlS 1 (rdS T n).2.1 (rdS T n).1).2, (rlS 1 (rdS T n).2.1 (rdS T n).1).1, (rdS T n).2.2.1, (rdS T n).2.2.2.1, (rdS T n).2.2.2.2.1, if (rdS T n).2.2.2.2.2 = -1 ∧ ((rdS T n).2.2.2.2.1 = 1 ∨ 0 < (rdS T n).2.2.1) then 10 * (n : Int) + 1 else (rdS T n).2.2.2.2.2)
theorem rlS_ok (k : Int) : ∀ (wt st : List Int), st.length ≤ 40 → wt.length ≤ 40 → (∀ x ∈ wt, chr7 x) → (rlS k wt st).2.length ≤ 40 ∧ (rlS k wt st).1.length ≤ 40 ∧ ∀ x ∈ (rlS k wt st).1, chr7 x
  | [], st, h, h2, hw => ⟨h, h2, hw⟩
  | w :: ws, st, h, h2, hw => by
    have h3 : ws.length + 1 ≤ 40 := h2
    unfold rlS
    split
    · exact rlS_ok k ws _ (adL_len h) (by omega) (fun x q => hw x (List.mem_cons_of_mem _ q))
    · exact ⟨h, h2, hw⟩
theorem adL_ok {x : Int} {l : List Int} (h : ∀ y ∈ l, chr7 y) (hx : chr7 x) : ∀ y ∈ adL x l, chr7 y := by
  unfold adL
  split
  · intro y q
    cases q with
    | head => exact hx
    | tail _ q => exact h y q
  · exact h
theorem cuS_ok {s : RS} (h : rsOK s) {p c : Int} (hp : 0 ≤ p ∧ p < 40) (hc : chr7 c) : rsOK (cuS s p c).1 ∧ ((cuS s p c).2 = 0 ∨ (cuS s p c).2 = 1) := by
  obtain ⟨st, wt, br, dg, wu, fl⟩ := s
  obtain ⟨h1, h2, h3, h4, h5, h6, h7⟩ := h
  simp only at h1 h2 h3 h4 h5 h6 h7
  unfold cuS
  split
  · exact ⟨⟨adL_len h1, h2, h3, h4, Or.inl rfl, h6, h7⟩, Or.inr rfl⟩
  · split
    · exact ⟨⟨h1, adL_len h2, h3, h4, h5, h6, adL_ok h7 ⟨by decide, by decide⟩⟩, Or.inr rfl⟩
    · split
      · exact ⟨⟨h1, adL_len h2, h3, h4, h5, h6, adL_ok h7 ⟨by decide, by decide⟩⟩, Or.inr rfl⟩
      · split
        · split
          · next hb => exact ⟨⟨h1, adL_len h2, ⟨by show 0 ≤ br + 1; omega, by show br + 1 ≤ 8; simp only at hb; omega⟩, h4, h5, h6, adL_ok h7 ⟨by decide, by decide⟩⟩, Or.inr rfl⟩
          · exact ⟨⟨h1, h2, h3, h4, h5, ⟨by show -1000 ≤ 10 * p + 3; omega, by show 10 * p + 3 ≤ 1000; omega⟩, h7⟩, Or.inl rfl⟩
        · exact ⟨⟨h1, h2, h3, h4, h5, h6, h7⟩, Or.inl rfl⟩
theorem tail_ok {l : List Int} (h : ∀ y ∈ l, chr7 y) : ∀ y ∈ l.tail, chr7 y := fun y q => h y (List.mem_of_mem_tail q)
theorem cbS_ok {s : RS} (h : rsOK s) : rsOK (cbS s).1 ∧ ((cbS s).2 = 0 ∨ (cbS s).2 = 1) := by
  obtain ⟨st, wt, br, dg, wu, fl⟩ := s
  obtain ⟨h1, h2, h3, h4, h5, h6, h7⟩ := h
  simp only at h1 h2 h3 h4 h5 h6 h7
  unfold cbS
  split
  · exact ⟨⟨h1, h2, h3, h4, h5, h6, h7⟩, Or.inl rfl⟩
  · next hb =>
    simp only at hb
    have hr := rlS_ok 1 wt st h1 h2 h7
    refine ⟨⟨hr.1, ?_, ⟨by show 0 ≤ br - 1; omega, by show br - 1 ≤ 8; omega⟩, h4, h5, h6, tail_ok hr.2.2⟩, Or.inr rfl⟩
    show (rlS 1 wt st).1.tail.length ≤ 40
    rw [List.length_tail]
    have := hr.2.1
    omega
theorem buS_ok {s : RS} (h : rsOK s) {c : Int} (hc : chr7 c) : rsOK (buS s c).1 ∧ ((buS s c).2 = 0 ∨ (buS s c).2 = 1) := by
  have h0 := h
  obtain ⟨st, wt, br, dg, wu, fl⟩ := s
  obtain ⟨h1, h2, h3, h4, h5, h6, h7⟩ := h
  simp only at h1 h2 h3 h4 h5 h6 h7
  unfold buS
  split
  · exact cbS_ok h0
  · split
    · exact ⟨h0, Or.inl rfl⟩
    · have hr := rlS_ok (krS c) wt st h1 h2 h7
      split
      · exact ⟨⟨hr.1, hr.2.1, h3, h4, h5, h6, hr.2.2⟩, Or.inl rfl⟩
      · exact ⟨⟨hr.1, adL_len hr.2.1, h3, h4, Or.inr rfl, h6, adL_ok hr.2.2 hc⟩, Or.inr rfl⟩
theorem d0S_ok {s : RS} (h : rsOK s) : rsOK (d0S s) := ⟨h.1, h.2.1, h.2.2.1, ⟨Int.le_refl _, by show (0 : Int) ≤ 6; decide⟩, h.2.2.2.2⟩
theorem flS_ok {q : RS × Int} (h : rsOK q.1) {p : Int} (hp : 0 ≤ p ∧ p < 40) : rsOK (flS q p) := by
  unfold flS
  split
  · exact ⟨h.1, h.2.1, h.2.2.1, h.2.2.2.1, h.2.2.2.2.1, ⟨by show -1000 ≤ 10 * p + 1; omega, by show 10 * p + 1 ≤ 1000; omega⟩, h.2.2.2.2.2.2⟩
  · exact h
theorem dgS_ok {s : RS} (h : rsOK s) {p x : Int} (hp : 0 ≤ p ∧ p < 40) : rsOK (dgS s p x) := by
  obtain ⟨st, wt, br, dg, wu, fl⟩ := s
  obtain ⟨h1, h2, h3, h4, h5, h6, h7⟩ := h
  simp only at h1 h2 h3 h4 h5 h6 h7
  unfold dgS
  split
  · exact ⟨h1, h2, h3, h4, h5, ⟨by show -1000 ≤ 10 * (p - 6) + 2; omega, by show 10 * (p - 6) + 2 ≤ 1000; omega⟩, h7⟩
  · next ha =>
    simp only at ha
    split
    · next hb =>
      simp only at hb
      refine ⟨?_, h2, h3, ⟨by show 0 ≤ dg + 1; omega, by show dg + 1 ≤ 6; omega⟩, h5, h6, h7⟩
      show st.tail.length + 1 ≤ 40
      rw [List.length_tail]
      omega
    · split
      · exact ⟨h1, h2, h3, h4, h5, ⟨by show -1000 ≤ 10 * p + 1; omega, by show 10 * p + 1 ≤ 1000; omega⟩, h7⟩
      · exact ⟨adL_len h1, h2, h3, ⟨by show (0 : Int) ≤ 1; decide, by show (1 : Int) ≤ 6; decide⟩, Or.inl rfl, h6, h7⟩
theorem chS_ok {s : RS} (h : rsOK s) {p c : Int} (hp : 0 ≤ p ∧ p < 40) (hc : chr7 c) : rsOK (chS s p c) := by
  unfold chS
  split
  · exact dgS_ok h hp
  · split
    · exact d0S_ok h
    · split
      · exact flS_ok (buS_ok (d0S_ok h) hc).1 hp
      · exact flS_ok (cuS_ok (d0S_ok h) hp hc).1 hp
theorem rdS_ok {T : Int → Int} (hT : ∀ j, 0 ≤ j → j < 40 → chr7 (T j)) : ∀ n : Nat, n ≤ 40 → rsOK (rdS T n)
  | 0, _ => ⟨by show (0 : Nat) ≤ 40; decide, by show (0 : Nat) ≤ 40; decide, ⟨by show (0 : Int) ≤ 0; decide, by show (0 : Int) ≤ 8; decide⟩, ⟨by show (0 : Int) ≤ 0; decide, by show (0 : Int) ≤ 6; decide⟩, Or.inr rfl, ⟨by show (-1000 : Int) ≤ -1; decide, by show (-1 : Int) ≤ 1000; decide⟩, fun x q => by cases q⟩
  | n + 1, h => by
    unfold rdS
    split
    · exact chS_ok (rdS_ok hT n (by omega)) ⟨by omega, by omega⟩ (hT n (by omega) (by omega))
    · exact rdS_ok hT n (by omega)
theorem rdS_stop {T : Int → Int} {i : Nat} (h : ¬ (rdS T i).2.2.2.2.2 = -1) : ∀ n : Nat, i ≤ n → rdS T n = rdS T i
  | 0, hi => by rw [show i = 0 by omega]
  | n + 1, hi => by
    by_cases hn : i = n + 1
    · rw [hn]
    · have e := rdS_stop h n (by omega)
      show (if (rdS T n).2.2.2.2.2 = -1 then _ else rdS T n) = _
      rw [e, if_neg h]

set_option maxHeartbeats 4000000 in
set_option maxRecDepth 100000 in
theorem s_rankOf {X : AX} {d : Nat} {σ : SG} (v : Int) (hv : rg v) : Ev X 0 0 d mX5_rankOf 0 [some (iv v)] [] σ (QI (fun r σ' => σ' = σ ∧ r = rkS v)) := by
  obtain ⟨hv1, hv2⟩ := hv
  refine e_iload_n (pc' := 1) dX5_rankOf_0 rfl rfl ?_
  by_cases k2_1 : v = 33
  · refine e_lookup (pc' := 110) (off := 109) dX5_rankOf_1 ⟨by omega, by omega⟩ (by decide) (by rw [k2_1]; rfl) (by decide) ?_
    refine e_bipush (pc' := 112) (z := 6) dX5_rankOf_110 rfl (by decide) ?_
    exact e_iret dX5_rankOf_112 rfl ⟨rfl, Nat.le_refl _⟩ ⟨_, rfl, rfl, by unfold rkS; (repeat (first | (rw [if_pos (by omega)]) | (rw [if_neg (by omega)])))⟩
  by_cases k2_2 : v = 38
  · refine e_lookup (pc' := 102) (off := 101) dX5_rankOf_1 ⟨by omega, by omega⟩ (by decide) (by rw [k2_2]; rfl) (by decide) ?_
    refine e_iconst (pc' := 103) dX5_rankOf_102 rfl ?_
    exact e_iret dX5_rankOf_103 rfl ⟨rfl, Nat.le_refl _⟩ ⟨_, rfl, rfl, by unfold rkS; (repeat (first | (rw [if_pos (by omega)]) | (rw [if_neg (by omega)])))⟩
  by_cases k2_3 : v = 42
  · refine e_lookup (pc' := 108) (off := 107) dX5_rankOf_1 ⟨by omega, by omega⟩ (by decide) (by rw [k2_3]; rfl) (by decide) ?_
    refine e_iconst (pc' := 109) dX5_rankOf_108 rfl ?_
    exact e_iret dX5_rankOf_109 rfl ⟨rfl, Nat.le_refl _⟩ ⟨_, rfl, rfl, by unfold rkS; (repeat (first | (rw [if_pos (by omega)]) | (rw [if_neg (by omega)])))⟩
  by_cases k2_4 : v = 43
  · refine e_lookup (pc' := 106) (off := 105) dX5_rankOf_1 ⟨by omega, by omega⟩ (by decide) (by rw [k2_4]; rfl) (by decide) ?_
    refine e_iconst (pc' := 107) dX5_rankOf_106 rfl ?_
    exact e_iret dX5_rankOf_107 rfl ⟨rfl, Nat.le_refl _⟩ ⟨_, rfl, rfl, by unfold rkS; (repeat (first | (rw [if_pos (by omega)]) | (rw [if_neg (by omega)])))⟩
  by_cases k2_5 : v = 45
  · refine e_lookup (pc' := 106) (off := 105) dX5_rankOf_1 ⟨by omega, by omega⟩ (by decide) (by rw [k2_5]; rfl) (by decide) ?_
    refine e_iconst (pc' := 107) dX5_rankOf_106 rfl ?_
    exact e_iret dX5_rankOf_107 rfl ⟨rfl, Nat.le_refl _⟩ ⟨_, rfl, rfl, by unfold rkS; (repeat (first | (rw [if_pos (by omega)]) | (rw [if_neg (by omega)])))⟩
  by_cases k2_6 : v = 47
  · refine e_lookup (pc' := 108) (off := 107) dX5_rankOf_1 ⟨by omega, by omega⟩ (by decide) (by rw [k2_6]; rfl) (by decide) ?_
    refine e_iconst (pc' := 109) dX5_rankOf_108 rfl ?_
    exact e_iret dX5_rankOf_109 rfl ⟨rfl, Nat.le_refl _⟩ ⟨_, rfl, rfl, by unfold rkS; (repeat (first | (rw [if_pos (by omega)]) | (rw [if_neg (by omega)])))⟩
  by_cases k2_7 : v = 60
  · refine e_lookup (pc' := 104) (off := 103) dX5_rankOf_1 ⟨by omega, by omega⟩ (by decide) (by rw [k2_7]; rfl) (by decide) ?_
    refine e_iconst (pc' := 105) dX5_rankOf_104 rfl ?_
    exact e_iret dX5_rankOf_105 rfl ⟨rfl, Nat.le_refl _⟩ ⟨_, rfl, rfl, by unfold rkS; (repeat (first | (rw [if_pos (by omega)]) | (rw [if_neg (by omega)])))⟩
  by_cases k2_8 : v = 61
  · refine e_lookup (pc' := 104) (off := 103) dX5_rankOf_1 ⟨by omega, by omega⟩ (by decide) (by rw [k2_8]; rfl) (by decide) ?_
    refine e_iconst (pc' := 105) dX5_rankOf_104 rfl ?_
    exact e_iret dX5_rankOf_105 rfl ⟨rfl, Nat.le_refl _⟩ ⟨_, rfl, rfl, by unfold rkS; (repeat (first | (rw [if_pos (by omega)]) | (rw [if_neg (by omega)])))⟩
  by_cases k2_9 : v = 62
  · refine e_lookup (pc' := 104) (off := 103) dX5_rankOf_1 ⟨by omega, by omega⟩ (by decide) (by rw [k2_9]; rfl) (by decide) ?_
    refine e_iconst (pc' := 105) dX5_rankOf_104 rfl ?_
    exact e_iret dX5_rankOf_105 rfl ⟨rfl, Nat.le_refl _⟩ ⟨_, rfl, rfl, by unfold rkS; (repeat (first | (rw [if_pos (by omega)]) | (rw [if_neg (by omega)])))⟩
  by_cases k2_10 : v = 124
  · refine e_lookup (pc' := 100) (off := 99) dX5_rankOf_1 ⟨by omega, by omega⟩ (by decide) (by rw [k2_10]; rfl) (by decide) ?_
    refine e_iconst (pc' := 101) dX5_rankOf_100 rfl ?_
    exact e_iret dX5_rankOf_101 rfl ⟨rfl, Nat.le_refl _⟩ ⟨_, rfl, rfl, by unfold rkS; (repeat (first | (rw [if_pos (by omega)]) | (rw [if_neg (by omega)])))⟩
  by_cases k2_11 : v = 126
  · refine e_lookup (pc' := 110) (off := 109) dX5_rankOf_1 ⟨by omega, by omega⟩ (by decide) (by rw [k2_11]; rfl) (by decide) ?_
    refine e_bipush (pc' := 112) (z := 6) dX5_rankOf_110 rfl (by decide) ?_
    exact e_iret dX5_rankOf_112 rfl ⟨rfl, Nat.le_refl _⟩ ⟨_, rfl, rfl, by unfold rkS; (repeat (first | (rw [if_pos (by omega)]) | (rw [if_neg (by omega)])))⟩
  refine e_lookup (pc' := 113) (off := 112) dX5_rankOf_1 ⟨by omega, by omega⟩ (by decide) (lk_none _ _ _ (by simp only [List.mem_cons, List.not_mem_nil, or_false, forall_eq_or_imp, forall_eq, ne_eq]; omega)) (by decide) ?_
  refine e_iconst (pc' := 114) dX5_rankOf_113 rfl ?_
  exact e_iret dX5_rankOf_114 rfl ⟨rfl, Nat.le_refl _⟩ ⟨_, rfl, rfl, by unfold rkS; (repeat (first | (rw [if_pos (by omega)]) | (rw [if_neg (by omega)])))⟩

set_option maxHeartbeats 4000000 in
set_option maxRecDepth 100000 in
theorem s_addStep_8 {X : AX} {d : Nat} {σ : SG} (n : Int) (st wt : List Int) (br dg wu fl : Int) (hI : RsI σ 8 n (st, wt, br, dg, wu, fl)) (hk : rsOK (st, wt, br, dg, wu, fl)) (x : Int) : Ev X 0 0 d mX7_addStep 0 [some (rv 8), some (iv x)] [] σ (QV (fun σ' => RsI σ' 8 n (adL x st, wt, br, dg, wu, fl) ∧ Fr [35, 36, 8, 10] σ σ')) := by
  obtain ⟨hk1, hk2, hk3, hk4, hk5, hk6, hk7⟩ := id hk
  simp only at hk1 hk2 hk3 hk4 hk5 hk6 hk7
  refine e_aload_n (pc' := 1) dX7_addStep_0 rfl rfl ?_
  refine e_getI (pc' := 4) (v := (st.length : Int)) dX7_addStep_1 rfl f_7_22 h_8 rfl hI.2.2.2.2.2.1 ?_
  refine e_bipush (pc' := 6) (z := 40) dX7_addStep_4 rfl (by decide) ?_
  refine e_icmpI (pc' := 9) (t := 29) dX7_addStep_6 (by decide) rfl ⟨by omega, by omega⟩ ⟨by omega, by omega⟩ (fun (c2_1 : 40 ≤ ((st.length : Int) : Int)) => ?_) (fun (c2_1 : ¬ (40 ≤ ((st.length : Int) : Int))) => ?_)
  · exact e_vret dX7_addStep_29 rfl ⟨rfl, Nat.le_refl _⟩ ⟨rfl, by unfold adL; rw [if_neg (by omega)]; exact hI, Fr.rf⟩
  · refine e_aload_n (pc' := 10) dX7_addStep_9 rfl rfl ?_
    refine e_getR (pc' := 13) dX7_addStep_10 rfl f_7_15 h_8 rfl ?_
    refine e_aload_n (pc' := 14) dX7_addStep_13 rfl rfl ?_
    refine e_getI (pc' := 17) (v := (st.length : Int)) dX7_addStep_14 rfl f_7_22 h_8 rfl hI.2.2.2.2.2.1 ?_
    refine e_iload_n (pc' := 18) dX7_addStep_17 rfl rfl ?_
    refine e_iast (pc' := 19) dX7_addStep_18 rfl h_10 (by decide) (by omega) (by omega) ?_
    refine e_aload_n (pc' := 20) dX7_addStep_19 rfl rfl ?_
    refine e_dup (pc' := 21) dX7_addStep_20 rfl rfl ?_
    refine e_getI (pc' := 24) (v := (st.length : Int)) dX7_addStep_21 rfl f_7_22 h_8 rfl hI.2.2.2.2.2.1 ?_
    refine e_iconst (pc' := 25) dX7_addStep_24 rfl ?_
    refine e_iadd (pc' := 26) dX7_addStep_25 rfl ?_
    refine e_putI (pc' := 29) dX7_addStep_26 rfl f_7_22 h_8 rfl rfl rfl ?_
    exact e_vret dX7_addStep_29 rfl ⟨rfl, Nat.le_refl _⟩ ⟨rfl, by unfold adL; rw [if_pos (by omega)]; exact ⟨hI.1, hI.2.1, hI.2.2.1, hI.2.2.2.1, hI.2.2.2.2.1, rfl, hI.2.2.2.2.2.2.1, ⟨if_pos ⟨rfl, rfl⟩, isLst_upI (σ := σ) (q := 10) (Int.le_refl _) hI.2.2.2.2.2.2.2.1⟩, hI.2.2.2.2.2.2.2.2⟩, (by repeat (first | exact Fr.rf | assumption | (refine fr_I ?_ (by decide)) | (refine fr_J ?_ (by decide)) | (refine fr_C ?_ (by decide))))⟩

set_option maxHeartbeats 4000000 in
set_option maxRecDepth 100000 in
theorem s_hold_r8 {X : AX} {d : Nat} {σ : SG} (n : Int) (st wt : List Int) (br dg wu fl : Int) (hI : RsI σ 8 n (st, wt, br, dg, wu, fl)) (hk : rsOK (st, wt, br, dg, wu, fl)) (x : Int) : Ev X 0 0 d mX5_hold 0 [some (rv 35), some (iv x)] [] σ (QV (fun σ' => RsI σ' 8 n (st, adL x wt, br, dg, wu, fl) ∧ Fr [35, 36, 8, 10] σ σ')) := by
  obtain ⟨hk1, hk2, hk3, hk4, hk5, hk6, hk7⟩ := id hk
  simp only at hk1 hk2 hk3 hk4 hk5 hk6 hk7
  refine e_aload_n (pc' := 1) dX5_hold_0 rfl rfl ?_
  refine e_getI (pc' := 4) (v := (wt.length : Int)) dX5_hold_1 rfl f_5_15 h_35 rfl hI.1 ?_
  refine e_bipush (pc' := 6) (z := 40) dX5_hold_4 rfl (by decide) ?_
  refine e_icmpI (pc' := 9) (t := 29) dX5_hold_6 (by decide) rfl ⟨by omega, by omega⟩ ⟨by omega, by omega⟩ (fun (c2_1 : 40 ≤ ((wt.length : Int) : Int)) => ?_) (fun (c2_1 : ¬ (40 ≤ ((wt.length : Int) : Int))) => ?_)
  · exact e_vret dX5_hold_29 rfl ⟨rfl, Nat.le_refl _⟩ ⟨rfl, by unfold adL; rw [if_neg (by omega)]; exact hI, Fr.rf⟩
  · refine e_aload_n (pc' := 10) dX5_hold_9 rfl rfl ?_
    refine e_getR (pc' := 13) dX5_hold_10 rfl f_5_9 h_35 rfl ?_
    refine e_aload_n (pc' := 14) dX5_hold_13 rfl rfl ?_
    refine e_getI (pc' := 17) (v := (wt.length : Int)) dX5_hold_14 rfl f_5_15 h_35 rfl hI.1 ?_
    refine e_iload_n (pc' := 18) dX5_hold_17 rfl rfl ?_
    refine e_iast (pc' := 19) dX5_hold_18 rfl h_36 (by decide) (by omega) (by omega) ?_
    refine e_aload_n (pc' := 20) dX5_hold_19 rfl rfl ?_
    refine e_dup (pc' := 21) dX5_hold_20 rfl rfl ?_
    refine e_getI (pc' := 24) (v := (wt.length : Int)) dX5_hold_21 rfl f_5_15 h_35 rfl hI.1 ?_
    refine e_iconst (pc' := 25) dX5_hold_24 rfl ?_
    refine e_iadd (pc' := 26) dX5_hold_25 rfl ?_
    refine e_putI (pc' := 29) dX5_hold_26 rfl f_5_15 h_35 rfl rfl rfl ?_
    exact e_vret dX5_hold_29 rfl ⟨rfl, Nat.le_refl _⟩ ⟨rfl, by unfold adL; rw [if_pos (by omega)]; exact ⟨rfl, hI.2.1, hI.2.2.1, hI.2.2.2.1, ⟨if_pos ⟨rfl, rfl⟩, isLst_upI (σ := σ) (q := 36) (Int.le_refl _) hI.2.2.2.2.1⟩, hI.2.2.2.2.2⟩, (by repeat (first | exact Fr.rf | assumption | (refine fr_I ?_ (by decide)) | (refine fr_J ?_ (by decide)) | (refine fr_C ?_ (by decide))))⟩

set_option maxHeartbeats 4000000 in
set_option maxRecDepth 100000 in
theorem s_release_8 {X : AX} {d : Nat} (n br dg wu fl k : Int) (hk : rg k) (wt : List Int) : ∀ (st : List Int) (σ : SG), RsI σ 8 n (st, wt, br, dg, wu, fl) → rsOK (st, wt, br, dg, wu, fl) → Ev X 0 0 (d + 1) mX5_release 0 [some (rv 35), some (rv 8), some (iv k)] [] σ (QV (fun σ' => RsI σ' 8 n ((rlS k wt st).2, (rlS k wt st).1, br, dg, wu, fl) ∧ Fr [35, 36, 8, 10] σ σ')) := by
  induction wt with
  | nil =>
    intro st σ hI hs
    have hl0 : ([] : List Int).length = 0 := rfl
    refine e_aload_n (pc' := 1) dX5_release_0 rfl rfl ?_
    refine e_getI (pc' := 4) (v := (([] : List Int).length : Int)) dX5_release_1 rfl f_5_15 h_35 rfl hI.1 ?_
    refine e_ifI (pc' := 7) (t := 52) dX5_release_4 (by decide) rfl ⟨by omega, by omega⟩ (fun (c4_1 : ((([] : List Int).length : Int) : Int) ≤ 0) => ?_) (fun (c4_1 : ¬ (((([] : List Int).length : Int) : Int) ≤ 0)) => absurd (show ((([] : List Int).length : Nat) : Int) ≤ 0 by decide) c4_1)
    exact e_vret dX5_release_52 rfl ⟨rfl, Nat.le_refl _⟩ ⟨rfl, hI, Fr.rf⟩
  | cons w ws ih =>
    intro st σ hI hs
    obtain ⟨hk1, hk2, hk3, hk4, hk5, hk6, hk7⟩ := id hs
    simp only at hk1 hk2 hk3 hk4 hk5 hk6 hk7
    have hl : (w :: ws).length = ws.length + 1 := rfl
    have hww : chr7 w := hk7 w List.mem_cons_self
    have hw1 := hww.1
    have hw2 := hww.2
    have hk1' : rsOK (st, ws, br, dg, wu, fl) := ⟨hk1, by show ws.length ≤ 40; omega, hk3, hk4, hk5, hk6, fun x q => hk7 x (List.mem_cons_of_mem _ q)⟩
    have hw0 : σ.1 36 (((w :: ws).length : Int) - 1) = w := by
      rw [show (((w :: ws).length : Int) - 1) = (ws.length : Int) by omega]
      exact hI.2.2.2.2.1.1
    refine e_aload_n (pc' := 1) dX5_release_0 rfl rfl ?_
    refine e_getI (pc' := 4) (v := ((w :: ws).length : Int)) dX5_release_1 rfl f_5_15 h_35 rfl hI.1 ?_
    refine e_ifI (pc' := 7) (t := 52) dX5_release_4 (by decide) rfl (by first | exact hk | exact ⟨by have := rkS_rg w; omega, by have := rkS_rg w; omega⟩) (fun (c4_1 : (((w :: ws).length : Int) : Int) ≤ 0) => absurd c4_1 (show ¬ ((w :: ws).length : Int) ≤ 0 by omega)) (fun (c4_1 : ¬ ((((w :: ws).length : Int) : Int) ≤ 0)) => ?_)
    refine e_aload_n (pc' := 8) dX5_release_7 rfl rfl ?_
    refine e_getR (pc' := 11) dX5_release_8 rfl f_5_9 h_35 rfl ?_
    refine e_aload_n (pc' := 12) dX5_release_11 rfl rfl ?_
    refine e_getI (pc' := 15) (v := ((w :: ws).length : Int)) dX5_release_12 rfl f_5_15 h_35 rfl hI.1 ?_
    refine e_iconst (pc' := 16) dX5_release_15 rfl ?_
    refine e_isub (pc' := 17) dX5_release_16 rfl ?_
    refine e_iald (pc' := 18) (v := w) dX5_release_17 rfl h_36 (by decide) (by omega) (by omega) hw0 ?_
    refine e_cs1i (pc' := 21) dX5_release_18 rfl pn_5_75 k_5_75 (Nat.le_of_ble_eq_true rfl) rfl rfl ⟨rfl, rfl⟩ ⟨Nat.zero_le _, Nat.zero_le _⟩ (s_rankOf w ⟨by omega, by omega⟩) ?_
    intro r σ' hr; rw [hr.1, hr.2]; clear hr
    refine e_iload_n (pc' := 22) dX5_release_21 rfl rfl ?_
    refine e_icmpI (pc' := 25) (t := 52) dX5_release_22 (by decide) rfl (by first | exact hk | exact ⟨by have := rkS_rg w; omega, by have := rkS_rg w; omega⟩) (by first | exact hk | exact ⟨by have := rkS_rg w; omega, by have := rkS_rg w; omega⟩) (fun (c4_2 : ((rkS w) : Int) < k) => ?_) (fun (c4_2 : ¬ (((rkS w) : Int) < k)) => ?_)
    · exact e_vret dX5_release_52 rfl ⟨rfl, Nat.le_refl _⟩ ⟨rfl, by have e : rlS k (w :: ws) st = (w :: ws, st) := (by show (if _ then _ else _) = _; rw [if_neg (by omega)]); rw [e]; exact hI, Fr.rf⟩
    · refine e_aload_n (pc' := 26) dX5_release_25 rfl rfl ?_
      refine e_dup (pc' := 27) dX5_release_26 rfl rfl ?_
      refine e_getI (pc' := 30) (v := ((w :: ws).length : Int)) dX5_release_27 rfl f_5_15 h_35 rfl hI.1 ?_
      refine e_iconst (pc' := 31) dX5_release_30 rfl ?_
      refine e_isub (pc' := 32) dX5_release_31 rfl ?_
      refine e_putI (pc' := 35) dX5_release_32 rfl f_5_15 h_35 rfl rfl rfl ?_
      have hI1 : RsI (upI σ 35 1 (((w :: ws).length : Int) - 1)) 8 n (st, ws, br, dg, wu, fl) := ⟨by show ((w :: ws).length : Int) - 1 = (ws.length : Int); omega, hI.2.1, hI.2.2.1, hI.2.2.2.1, hI.2.2.2.2.1.2, hI.2.2.2.2.2⟩
      have hF1 : Fr [35, 36, 8, 10] σ (upI σ 35 1 (((w :: ws).length : Int) - 1)) := fr_I Fr.rf (by decide)
      refine e_aload_n (pc' := 36) dX5_release_35 rfl rfl ?_
      refine e_aload_n (pc' := 37) dX5_release_36 rfl rfl ?_
      refine e_getR (pc' := 40) dX5_release_37 rfl f_5_9 h_35 rfl ?_
      refine e_aload_n (pc' := 41) dX5_release_40 rfl rfl ?_
      refine e_getI (pc' := 44) (v := (((w :: ws).length : Int) - 1)) dX5_release_41 rfl f_5_15 h_35 rfl rfl ?_
      refine e_iald (pc' := 45) (v := w) dX5_release_44 rfl h_36 (by decide) (by omega) (by omega) hw0 ?_
      refine e_ineg (pc' := 46) dX5_release_45 rfl ?_
      refine e_cv1v (pc' := 49) dX5_release_46 rfl k_5_64 h_8 rfl (Nat.le_of_ble_eq_true rfl) rfl rfl ⟨rfl, rfl⟩ ⟨Nat.zero_le _, Nat.zero_le _⟩ (s_addStep_8 n st ws br dg wu fl hI1 hk1' (-w)) ?_
      rintro τ2 ⟨hI2, hF2⟩
      refine e_goto (pc' := 0) dX5_release_49 (by decide) ?_
      have e : rlS k (w :: ws) st = rlS k ws (adL (-w) st) := by show (if _ then _ else _) = _; rw [if_pos (by omega)]
      rw [e]
      refine (ih (adL (-w) st) τ2 hI2 ⟨adL_len hk1, by show ws.length ≤ 40; omega, hk3, hk4, hk5, hk6, fun x q => hk7 x (List.mem_cons_of_mem _ q)⟩).imp ?_
      rintro v σ' ⟨hv, hr, hF⟩
      exact ⟨hv, hr, hF1.tr (hF2.tr hF)⟩

set_option maxHeartbeats 4000000 in
set_option maxRecDepth 100000 in
theorem s_addStep_11 {X : AX} {d : Nat} {σ : SG} (n : Int) (st wt : List Int) (br dg wu fl : Int) (hI : RsI σ 11 n (st, wt, br, dg, wu, fl)) (hk : rsOK (st, wt, br, dg, wu, fl)) (x : Int) : Ev X 0 0 d mX7_addStep 0 [some (rv 11), some (iv x)] [] σ (QV (fun σ' => RsI σ' 11 n (adL x st, wt, br, dg, wu, fl) ∧ Fr [35, 36, 11, 13] σ σ')) := by
  obtain ⟨hk1, hk2, hk3, hk4, hk5, hk6, hk7⟩ := id hk
  simp only at hk1 hk2 hk3 hk4 hk5 hk6 hk7
  refine e_aload_n (pc' := 1) dX7_addStep_0 rfl rfl ?_
  refine e_getI (pc' := 4) (v := (st.length : Int)) dX7_addStep_1 rfl f_7_22 h_11 rfl hI.2.2.2.2.2.1 ?_
  refine e_bipush (pc' := 6) (z := 40) dX7_addStep_4 rfl (by decide) ?_
  refine e_icmpI (pc' := 9) (t := 29) dX7_addStep_6 (by decide) rfl ⟨by omega, by omega⟩ ⟨by omega, by omega⟩ (fun (c2_1 : 40 ≤ ((st.length : Int) : Int)) => ?_) (fun (c2_1 : ¬ (40 ≤ ((st.length : Int) : Int))) => ?_)
  · exact e_vret dX7_addStep_29 rfl ⟨rfl, Nat.le_refl _⟩ ⟨rfl, by unfold adL; rw [if_neg (by omega)]; exact hI, Fr.rf⟩
  · refine e_aload_n (pc' := 10) dX7_addStep_9 rfl rfl ?_
    refine e_getR (pc' := 13) dX7_addStep_10 rfl f_7_15 h_11 rfl ?_
    refine e_aload_n (pc' := 14) dX7_addStep_13 rfl rfl ?_
    refine e_getI (pc' := 17) (v := (st.length : Int)) dX7_addStep_14 rfl f_7_22 h_11 rfl hI.2.2.2.2.2.1 ?_
    refine e_iload_n (pc' := 18) dX7_addStep_17 rfl rfl ?_
    refine e_iast (pc' := 19) dX7_addStep_18 rfl h_13 (by decide) (by omega) (by omega) ?_
    refine e_aload_n (pc' := 20) dX7_addStep_19 rfl rfl ?_
    refine e_dup (pc' := 21) dX7_addStep_20 rfl rfl ?_
    refine e_getI (pc' := 24) (v := (st.length : Int)) dX7_addStep_21 rfl f_7_22 h_11 rfl hI.2.2.2.2.2.1 ?_
    refine e_iconst (pc' := 25) dX7_addStep_24 rfl ?_
    refine e_iadd (pc' := 26) dX7_addStep_25 rfl ?_
    refine e_putI (pc' := 29) dX7_addStep_26 rfl f_7_22 h_11 rfl rfl rfl ?_
    exact e_vret dX7_addStep_29 rfl ⟨rfl, Nat.le_refl _⟩ ⟨rfl, by unfold adL; rw [if_pos (by omega)]; exact ⟨hI.1, hI.2.1, hI.2.2.1, hI.2.2.2.1, hI.2.2.2.2.1, rfl, hI.2.2.2.2.2.2.1, ⟨if_pos ⟨rfl, rfl⟩, isLst_upI (σ := σ) (q := 13) (Int.le_refl _) hI.2.2.2.2.2.2.2.1⟩, hI.2.2.2.2.2.2.2.2⟩, (by repeat (first | exact Fr.rf | assumption | (refine fr_I ?_ (by decide)) | (refine fr_J ?_ (by decide)) | (refine fr_C ?_ (by decide))))⟩

set_option maxHeartbeats 4000000 in
set_option maxRecDepth 100000 in
theorem s_hold_r11 {X : AX} {d : Nat} {σ : SG} (n : Int) (st wt : List Int) (br dg wu fl : Int) (hI : RsI σ 11 n (st, wt, br, dg, wu, fl)) (hk : rsOK (st, wt, br, dg, wu, fl)) (x : Int) : Ev X 0 0 d mX5_hold 0 [some (rv 35), some (iv x)] [] σ (QV (fun σ' => RsI σ' 11 n (st, adL x wt, br, dg, wu, fl) ∧ Fr [35, 36, 11, 13] σ σ')) := by
  obtain ⟨hk1, hk2, hk3, hk4, hk5, hk6, hk7⟩ := id hk
  simp only at hk1 hk2 hk3 hk4 hk5 hk6 hk7
  refine e_aload_n (pc' := 1) dX5_hold_0 rfl rfl ?_
  refine e_getI (pc' := 4) (v := (wt.length : Int)) dX5_hold_1 rfl f_5_15 h_35 rfl hI.1 ?_
  refine e_bipush (pc' := 6) (z := 40) dX5_hold_4 rfl (by decide) ?_
  refine e_icmpI (pc' := 9) (t := 29) dX5_hold_6 (by decide) rfl ⟨by omega, by omega⟩ ⟨by omega, by omega⟩ (fun (c2_1 : 40 ≤ ((wt.length : Int) : Int)) => ?_) (fun (c2_1 : ¬ (40 ≤ ((wt.length : Int) : Int))) => ?_)
  · exact e_vret dX5_hold_29 rfl ⟨rfl, Nat.le_refl _⟩ ⟨rfl, by unfold adL; rw [if_neg (by omega)]; exact hI, Fr.rf⟩
  · refine e_aload_n (pc' := 10) dX5_hold_9 rfl rfl ?_
    refine e_getR (pc' := 13) dX5_hold_10 rfl f_5_9 h_35 rfl ?_
    refine e_aload_n (pc' := 14) dX5_hold_13 rfl rfl ?_
    refine e_getI (pc' := 17) (v := (wt.length : Int)) dX5_hold_14 rfl f_5_15 h_35 rfl hI.1 ?_
    refine e_iload_n (pc' := 18) dX5_hold_17 rfl rfl ?_
    refine e_iast (pc' := 19) dX5_hold_18 rfl h_36 (by decide) (by omega) (by omega) ?_
    refine e_aload_n (pc' := 20) dX5_hold_19 rfl rfl ?_
    refine e_dup (pc' := 21) dX5_hold_20 rfl rfl ?_
    refine e_getI (pc' := 24) (v := (wt.length : Int)) dX5_hold_21 rfl f_5_15 h_35 rfl hI.1 ?_
    refine e_iconst (pc' := 25) dX5_hold_24 rfl ?_
    refine e_iadd (pc' := 26) dX5_hold_25 rfl ?_
    refine e_putI (pc' := 29) dX5_hold_26 rfl f_5_15 h_35 rfl rfl rfl ?_
    exact e_vret dX5_hold_29 rfl ⟨rfl, Nat.le_refl _⟩ ⟨rfl, by unfold adL; rw [if_pos (by omega)]; exact ⟨rfl, hI.2.1, hI.2.2.1, hI.2.2.2.1, ⟨if_pos ⟨rfl, rfl⟩, isLst_upI (σ := σ) (q := 36) (Int.le_refl _) hI.2.2.2.2.1⟩, hI.2.2.2.2.2⟩, (by repeat (first | exact Fr.rf | assumption | (refine fr_I ?_ (by decide)) | (refine fr_J ?_ (by decide)) | (refine fr_C ?_ (by decide))))⟩

set_option maxHeartbeats 4000000 in
set_option maxRecDepth 100000 in
theorem s_release_11 {X : AX} {d : Nat} (n br dg wu fl k : Int) (hk : rg k) (wt : List Int) : ∀ (st : List Int) (σ : SG), RsI σ 11 n (st, wt, br, dg, wu, fl) → rsOK (st, wt, br, dg, wu, fl) → Ev X 0 0 (d + 1) mX5_release 0 [some (rv 35), some (rv 11), some (iv k)] [] σ (QV (fun σ' => RsI σ' 11 n ((rlS k wt st).2, (rlS k wt st).1, br, dg, wu, fl) ∧ Fr [35, 36, 11, 13] σ σ')) := by
  induction wt with
  | nil =>
    intro st σ hI hs
    have hl0 : ([] : List Int).length = 0 := rfl
    refine e_aload_n (pc' := 1) dX5_release_0 rfl rfl ?_
    refine e_getI (pc' := 4) (v := (([] : List Int).length : Int)) dX5_release_1 rfl f_5_15 h_35 rfl hI.1 ?_
    refine e_ifI (pc' := 7) (t := 52) dX5_release_4 (by decide) rfl ⟨by omega, by omega⟩ (fun (c4_1 : ((([] : List Int).length : Int) : Int) ≤ 0) => ?_) (fun (c4_1 : ¬ (((([] : List Int).length : Int) : Int) ≤ 0)) => absurd (show ((([] : List Int).length : Nat) : Int) ≤ 0 by decide) c4_1)
    exact e_vret dX5_release_52 rfl ⟨rfl, Nat.le_refl _⟩ ⟨rfl, hI, Fr.rf⟩
  | cons w ws ih =>
    intro st σ hI hs
    obtain ⟨hk1, hk2, hk3, hk4, hk5, hk6, hk7⟩ := id hs
    simp only at hk1 hk2 hk3 hk4 hk5 hk6 hk7
    have hl : (w :: ws).length = ws.length + 1 := rfl
    have hww : chr7 w := hk7 w List.mem_cons_self
    have hw1 := hww.1
    have hw2 := hww.2
    have hk1' : rsOK (st, ws, br, dg, wu, fl) := ⟨hk1, by show ws.length ≤ 40; omega, hk3, hk4, hk5, hk6, fun x q => hk7 x (List.mem_cons_of_mem _ q)⟩
    have hw0 : σ.1 36 (((w :: ws).length : Int) - 1) = w := by
      rw [show (((w :: ws).length : Int) - 1) = (ws.length : Int) by omega]
      exact hI.2.2.2.2.1.1
    refine e_aload_n (pc' := 1) dX5_release_0 rfl rfl ?_
    refine e_getI (pc' := 4) (v := ((w :: ws).length : Int)) dX5_release_1 rfl f_5_15 h_35 rfl hI.1 ?_
    refine e_ifI (pc' := 7) (t := 52) dX5_release_4 (by decide) rfl (by first | exact hk | exact ⟨by have := rkS_rg w; omega, by have := rkS_rg w; omega⟩) (fun (c4_1 : (((w :: ws).length : Int) : Int) ≤ 0) => absurd c4_1 (show ¬ ((w :: ws).length : Int) ≤ 0 by omega)) (fun (c4_1 : ¬ ((((w :: ws).length : Int) : Int) ≤ 0)) => ?_)
    refine e_aload_n (pc' := 8) dX5_release_7 rfl rfl ?_
    refine e_getR (pc' := 11) dX5_release_8 rfl f_5_9 h_35 rfl ?_
    refine e_aload_n (pc' := 12) dX5_release_11 rfl rfl ?_
    refine e_getI (pc' := 15) (v := ((w :: ws).length : Int)) dX5_release_12 rfl f_5_15 h_35 rfl hI.1 ?_
    refine e_iconst (pc' := 16) dX5_release_15 rfl ?_
    refine e_isub (pc' := 17) dX5_release_16 rfl ?_
    refine e_iald (pc' := 18) (v := w) dX5_release_17 rfl h_36 (by decide) (by omega) (by omega) hw0 ?_
    refine e_cs1i (pc' := 21) dX5_release_18 rfl pn_5_75 k_5_75 (Nat.le_of_ble_eq_true rfl) rfl rfl ⟨rfl, rfl⟩ ⟨Nat.zero_le _, Nat.zero_le _⟩ (s_rankOf w ⟨by omega, by omega⟩) ?_
    intro r σ' hr; rw [hr.1, hr.2]; clear hr
    refine e_iload_n (pc' := 22) dX5_release_21 rfl rfl ?_
    refine e_icmpI (pc' := 25) (t := 52) dX5_release_22 (by decide) rfl (by first | exact hk | exact ⟨by have := rkS_rg w; omega, by have := rkS_rg w; omega⟩) (by first | exact hk | exact ⟨by have := rkS_rg w; omega, by have := rkS_rg w; omega⟩) (fun (c4_2 : ((rkS w) : Int) < k) => ?_) (fun (c4_2 : ¬ (((rkS w) : Int) < k)) => ?_)
    · exact e_vret dX5_release_52 rfl ⟨rfl, Nat.le_refl _⟩ ⟨rfl, by have e : rlS k (w :: ws) st = (w :: ws, st) := (by show (if _ then _ else _) = _; rw [if_neg (by omega)]); rw [e]; exact hI, Fr.rf⟩
    · refine e_aload_n (pc' := 26) dX5_release_25 rfl rfl ?_
      refine e_dup (pc' := 27) dX5_release_26 rfl rfl ?_
      refine e_getI (pc' := 30) (v := ((w :: ws).length : Int)) dX5_release_27 rfl f_5_15 h_35 rfl hI.1 ?_
      refine e_iconst (pc' := 31) dX5_release_30 rfl ?_
      refine e_isub (pc' := 32) dX5_release_31 rfl ?_
      refine e_putI (pc' := 35) dX5_release_32 rfl f_5_15 h_35 rfl rfl rfl ?_
      have hI1 : RsI (upI σ 35 1 (((w :: ws).length : Int) - 1)) 11 n (st, ws, br, dg, wu, fl) := ⟨by show ((w :: ws).length : Int) - 1 = (ws.length : Int); omega, hI.2.1, hI.2.2.1, hI.2.2.2.1, hI.2.2.2.2.1.2, hI.2.2.2.2.2⟩
      have hF1 : Fr [35, 36, 11, 13] σ (upI σ 35 1 (((w :: ws).length : Int) - 1)) := fr_I Fr.rf (by decide)
      refine e_aload_n (pc' := 36) dX5_release_35 rfl rfl ?_
      refine e_aload_n (pc' := 37) dX5_release_36 rfl rfl ?_
      refine e_getR (pc' := 40) dX5_release_37 rfl f_5_9 h_35 rfl ?_
      refine e_aload_n (pc' := 41) dX5_release_40 rfl rfl ?_
      refine e_getI (pc' := 44) (v := (((w :: ws).length : Int) - 1)) dX5_release_41 rfl f_5_15 h_35 rfl rfl ?_
      refine e_iald (pc' := 45) (v := w) dX5_release_44 rfl h_36 (by decide) (by omega) (by omega) hw0 ?_
      refine e_ineg (pc' := 46) dX5_release_45 rfl ?_
      refine e_cv1v (pc' := 49) dX5_release_46 rfl k_5_64 h_11 rfl (Nat.le_of_ble_eq_true rfl) rfl rfl ⟨rfl, rfl⟩ ⟨Nat.zero_le _, Nat.zero_le _⟩ (s_addStep_11 n st ws br dg wu fl hI1 hk1' (-w)) ?_
      rintro τ2 ⟨hI2, hF2⟩
      refine e_goto (pc' := 0) dX5_release_49 (by decide) ?_
      have e : rlS k (w :: ws) st = rlS k ws (adL (-w) st) := by show (if _ then _ else _) = _; rw [if_pos (by omega)]
      rw [e]
      refine (ih (adL (-w) st) τ2 hI2 ⟨adL_len hk1, by show ws.length ≤ 40; omega, hk3, hk4, hk5, hk6, fun x q => hk7 x (List.mem_cons_of_mem _ q)⟩).imp ?_
      rintro v σ' ⟨hv, hr, hF⟩
      exact ⟨hv, hr, hF1.tr (hF2.tr hF)⟩

set_option maxHeartbeats 4000000 in
set_option maxRecDepth 100000 in
theorem s_addStep_14 {X : AX} {d : Nat} {σ : SG} (n : Int) (st wt : List Int) (br dg wu fl : Int) (hI : RsI σ 14 n (st, wt, br, dg, wu, fl)) (hk : rsOK (st, wt, br, dg, wu, fl)) (x : Int) : Ev X 0 0 d mX7_addStep 0 [some (rv 14), some (iv x)] [] σ (QV (fun σ' => RsI σ' 14 n (adL x st, wt, br, dg, wu, fl) ∧ Fr [35, 36, 14, 16] σ σ')) := by
  obtain ⟨hk1, hk2, hk3, hk4, hk5, hk6, hk7⟩ := id hk
  simp only at hk1 hk2 hk3 hk4 hk5 hk6 hk7
  refine e_aload_n (pc' := 1) dX7_addStep_0 rfl rfl ?_
  refine e_getI (pc' := 4) (v := (st.length : Int)) dX7_addStep_1 rfl f_7_22 h_14 rfl hI.2.2.2.2.2.1 ?_
  refine e_bipush (pc' := 6) (z := 40) dX7_addStep_4 rfl (by decide) ?_
  refine e_icmpI (pc' := 9) (t := 29) dX7_addStep_6 (by decide) rfl ⟨by omega, by omega⟩ ⟨by omega, by omega⟩ (fun (c2_1 : 40 ≤ ((st.length : Int) : Int)) => ?_) (fun (c2_1 : ¬ (40 ≤ ((st.length : Int) : Int))) => ?_)
  · exact e_vret dX7_addStep_29 rfl ⟨rfl, Nat.le_refl _⟩ ⟨rfl, by unfold adL; rw [if_neg (by omega)]; exact hI, Fr.rf⟩
  · refine e_aload_n (pc' := 10) dX7_addStep_9 rfl rfl ?_
    refine e_getR (pc' := 13) dX7_addStep_10 rfl f_7_15 h_14 rfl ?_
    refine e_aload_n (pc' := 14) dX7_addStep_13 rfl rfl ?_
    refine e_getI (pc' := 17) (v := (st.length : Int)) dX7_addStep_14 rfl f_7_22 h_14 rfl hI.2.2.2.2.2.1 ?_
    refine e_iload_n (pc' := 18) dX7_addStep_17 rfl rfl ?_
    refine e_iast (pc' := 19) dX7_addStep_18 rfl h_16 (by decide) (by omega) (by omega) ?_
    refine e_aload_n (pc' := 20) dX7_addStep_19 rfl rfl ?_
    refine e_dup (pc' := 21) dX7_addStep_20 rfl rfl ?_
    refine e_getI (pc' := 24) (v := (st.length : Int)) dX7_addStep_21 rfl f_7_22 h_14 rfl hI.2.2.2.2.2.1 ?_
    refine e_iconst (pc' := 25) dX7_addStep_24 rfl ?_
    refine e_iadd (pc' := 26) dX7_addStep_25 rfl ?_
    refine e_putI (pc' := 29) dX7_addStep_26 rfl f_7_22 h_14 rfl rfl rfl ?_
    exact e_vret dX7_addStep_29 rfl ⟨rfl, Nat.le_refl _⟩ ⟨rfl, by unfold adL; rw [if_pos (by omega)]; exact ⟨hI.1, hI.2.1, hI.2.2.1, hI.2.2.2.1, hI.2.2.2.2.1, rfl, hI.2.2.2.2.2.2.1, ⟨if_pos ⟨rfl, rfl⟩, isLst_upI (σ := σ) (q := 16) (Int.le_refl _) hI.2.2.2.2.2.2.2.1⟩, hI.2.2.2.2.2.2.2.2⟩, (by repeat (first | exact Fr.rf | assumption | (refine fr_I ?_ (by decide)) | (refine fr_J ?_ (by decide)) | (refine fr_C ?_ (by decide))))⟩

set_option maxHeartbeats 4000000 in
set_option maxRecDepth 100000 in
theorem s_hold_r14 {X : AX} {d : Nat} {σ : SG} (n : Int) (st wt : List Int) (br dg wu fl : Int) (hI : RsI σ 14 n (st, wt, br, dg, wu, fl)) (hk : rsOK (st, wt, br, dg, wu, fl)) (x : Int) : Ev X 0 0 d mX5_hold 0 [some (rv 35), some (iv x)] [] σ (QV (fun σ' => RsI σ' 14 n (st, adL x wt, br, dg, wu, fl) ∧ Fr [35, 36, 14, 16] σ σ')) := by
  obtain ⟨hk1, hk2, hk3, hk4, hk5, hk6, hk7⟩ := id hk
  simp only at hk1 hk2 hk3 hk4 hk5 hk6 hk7
  refine e_aload_n (pc' := 1) dX5_hold_0 rfl rfl ?_
  refine e_getI (pc' := 4) (v := (wt.length : Int)) dX5_hold_1 rfl f_5_15 h_35 rfl hI.1 ?_
  refine e_bipush (pc' := 6) (z := 40) dX5_hold_4 rfl (by decide) ?_
  refine e_icmpI (pc' := 9) (t := 29) dX5_hold_6 (by decide) rfl ⟨by omega, by omega⟩ ⟨by omega, by omega⟩ (fun (c2_1 : 40 ≤ ((wt.length : Int) : Int)) => ?_) (fun (c2_1 : ¬ (40 ≤ ((wt.length : Int) : Int))) => ?_)
  · exact e_vret dX5_hold_29 rfl ⟨rfl, Nat.le_refl _⟩ ⟨rfl, by unfold adL; rw [if_neg (by omega)]; exact hI, Fr.rf⟩
  · refine e_aload_n (pc' := 10) dX5_hold_9 rfl rfl ?_
    refine e_getR (pc' := 13) dX5_hold_10 rfl f_5_9 h_35 rfl ?_
    refine e_aload_n (pc' := 14) dX5_hold_13 rfl rfl ?_
    refine e_getI (pc' := 17) (v := (wt.length : Int)) dX5_hold_14 rfl f_5_15 h_35 rfl hI.1 ?_
    refine e_iload_n (pc' := 18) dX5_hold_17 rfl rfl ?_
    refine e_iast (pc' := 19) dX5_hold_18 rfl h_36 (by decide) (by omega) (by omega) ?_
    refine e_aload_n (pc' := 20) dX5_hold_19 rfl rfl ?_
    refine e_dup (pc' := 21) dX5_hold_20 rfl rfl ?_
    refine e_getI (pc' := 24) (v := (wt.length : Int)) dX5_hold_21 rfl f_5_15 h_35 rfl hI.1 ?_
    refine e_iconst (pc' := 25) dX5_hold_24 rfl ?_
    refine e_iadd (pc' := 26) dX5_hold_25 rfl ?_
    refine e_putI (pc' := 29) dX5_hold_26 rfl f_5_15 h_35 rfl rfl rfl ?_
    exact e_vret dX5_hold_29 rfl ⟨rfl, Nat.le_refl _⟩ ⟨rfl, by unfold adL; rw [if_pos (by omega)]; exact ⟨rfl, hI.2.1, hI.2.2.1, hI.2.2.2.1, ⟨if_pos ⟨rfl, rfl⟩, isLst_upI (σ := σ) (q := 36) (Int.le_refl _) hI.2.2.2.2.1⟩, hI.2.2.2.2.2⟩, (by repeat (first | exact Fr.rf | assumption | (refine fr_I ?_ (by decide)) | (refine fr_J ?_ (by decide)) | (refine fr_C ?_ (by decide))))⟩

set_option maxHeartbeats 4000000 in
set_option maxRecDepth 100000 in
theorem s_release_14 {X : AX} {d : Nat} (n br dg wu fl k : Int) (hk : rg k) (wt : List Int) : ∀ (st : List Int) (σ : SG), RsI σ 14 n (st, wt, br, dg, wu, fl) → rsOK (st, wt, br, dg, wu, fl) → Ev X 0 0 (d + 1) mX5_release 0 [some (rv 35), some (rv 14), some (iv k)] [] σ (QV (fun σ' => RsI σ' 14 n ((rlS k wt st).2, (rlS k wt st).1, br, dg, wu, fl) ∧ Fr [35, 36, 14, 16] σ σ')) := by
  induction wt with
  | nil =>
    intro st σ hI hs
    have hl0 : ([] : List Int).length = 0 := rfl
    refine e_aload_n (pc' := 1) dX5_release_0 rfl rfl ?_
    refine e_getI (pc' := 4) (v := (([] : List Int).length : Int)) dX5_release_1 rfl f_5_15 h_35 rfl hI.1 ?_
    refine e_ifI (pc' := 7) (t := 52) dX5_release_4 (by decide) rfl ⟨by omega, by omega⟩ (fun (c4_1 : ((([] : List Int).length : Int) : Int) ≤ 0) => ?_) (fun (c4_1 : ¬ (((([] : List Int).length : Int) : Int) ≤ 0)) => absurd (show ((([] : List Int).length : Nat) : Int) ≤ 0 by decide) c4_1)
    exact e_vret dX5_release_52 rfl ⟨rfl, Nat.le_refl _⟩ ⟨rfl, hI, Fr.rf⟩
  | cons w ws ih =>
    intro st σ hI hs
    obtain ⟨hk1, hk2, hk3, hk4, hk5, hk6, hk7⟩ := id hs
    simp only at hk1 hk2 hk3 hk4 hk5 hk6 hk7
    have hl : (w :: ws).length = ws.length + 1 := rfl
    have hww : chr7 w := hk7 w List.mem_cons_self
    have hw1 := hww.1
    have hw2 := hww.2
    have hk1' : rsOK (st, ws, br, dg, wu, fl) := ⟨hk1, by show ws.length ≤ 40; omega, hk3, hk4, hk5, hk6, fun x q => hk7 x (List.mem_cons_of_mem _ q)⟩
    have hw0 : σ.1 36 (((w :: ws).length : Int) - 1) = w := by
      rw [show (((w :: ws).length : Int) - 1) = (ws.length : Int) by omega]
      exact hI.2.2.2.2.1.1
    refine e_aload_n (pc' := 1) dX5_release_0 rfl rfl ?_
    refine e_getI (pc' := 4) (v := ((w :: ws).length : Int)) dX5_release_1 rfl f_5_15 h_35 rfl hI.1 ?_
    refine e_ifI (pc' := 7) (t := 52) dX5_release_4 (by decide) rfl (by first | exact hk | exact ⟨by have := rkS_rg w; omega, by have := rkS_rg w; omega⟩) (fun (c4_1 : (((w :: ws).length : Int) : Int) ≤ 0) => absurd c4_1 (show ¬ ((w :: ws).length : Int) ≤ 0 by omega)) (fun (c4_1 : ¬ ((((w :: ws).length : Int) : Int) ≤ 0)) => ?_)
    refine e_aload_n (pc' := 8) dX5_release_7 rfl rfl ?_
    refine e_getR (pc' := 11) dX5_release_8 rfl f_5_9 h_35 rfl ?_
    refine e_aload_n (pc' := 12) dX5_release_11 rfl rfl ?_
    refine e_getI (pc' := 15) (v := ((w :: ws).length : Int)) dX5_release_12 rfl f_5_15 h_35 rfl hI.1 ?_
    refine e_iconst (pc' := 16) dX5_release_15 rfl ?_
    refine e_isub (pc' := 17) dX5_release_16 rfl ?_
    refine e_iald (pc' := 18) (v := w) dX5_release_17 rfl h_36 (by decide) (by omega) (by omega) hw0 ?_
    refine e_cs1i (pc' := 21) dX5_release_18 rfl pn_5_75 k_5_75 (Nat.le_of_ble_eq_true rfl) rfl rfl ⟨rfl, rfl⟩ ⟨Nat.zero_le _, Nat.zero_le _⟩ (s_rankOf w ⟨by omega, by omega⟩) ?_
    intro r σ' hr; rw [hr.1, hr.2]; clear hr
    refine e_iload_n (pc' := 22) dX5_release_21 rfl rfl ?_
    refine e_icmpI (pc' := 25) (t := 52) dX5_release_22 (by decide) rfl (by first | exact hk | exact ⟨by have := rkS_rg w; omega, by have := rkS_rg w; omega⟩) (by first | exact hk | exact ⟨by have := rkS_rg w; omega, by have := rkS_rg w; omega⟩) (fun (c4_2 : ((rkS w) : Int) < k) => ?_) (fun (c4_2 : ¬ (((rkS w) : Int) < k)) => ?_)
    · exact e_vret dX5_release_52 rfl ⟨rfl, Nat.le_refl _⟩ ⟨rfl, by have e : rlS k (w :: ws) st = (w :: ws, st) := (by show (if _ then _ else _) = _; rw [if_neg (by omega)]); rw [e]; exact hI, Fr.rf⟩
    · refine e_aload_n (pc' := 26) dX5_release_25 rfl rfl ?_
      refine e_dup (pc' := 27) dX5_release_26 rfl rfl ?_
      refine e_getI (pc' := 30) (v := ((w :: ws).length : Int)) dX5_release_27 rfl f_5_15 h_35 rfl hI.1 ?_
      refine e_iconst (pc' := 31) dX5_release_30 rfl ?_
      refine e_isub (pc' := 32) dX5_release_31 rfl ?_
      refine e_putI (pc' := 35) dX5_release_32 rfl f_5_15 h_35 rfl rfl rfl ?_
      have hI1 : RsI (upI σ 35 1 (((w :: ws).length : Int) - 1)) 14 n (st, ws, br, dg, wu, fl) := ⟨by show ((w :: ws).length : Int) - 1 = (ws.length : Int); omega, hI.2.1, hI.2.2.1, hI.2.2.2.1, hI.2.2.2.2.1.2, hI.2.2.2.2.2⟩
      have hF1 : Fr [35, 36, 14, 16] σ (upI σ 35 1 (((w :: ws).length : Int) - 1)) := fr_I Fr.rf (by decide)
      refine e_aload_n (pc' := 36) dX5_release_35 rfl rfl ?_
      refine e_aload_n (pc' := 37) dX5_release_36 rfl rfl ?_
      refine e_getR (pc' := 40) dX5_release_37 rfl f_5_9 h_35 rfl ?_
      refine e_aload_n (pc' := 41) dX5_release_40 rfl rfl ?_
      refine e_getI (pc' := 44) (v := (((w :: ws).length : Int) - 1)) dX5_release_41 rfl f_5_15 h_35 rfl rfl ?_
      refine e_iald (pc' := 45) (v := w) dX5_release_44 rfl h_36 (by decide) (by omega) (by omega) hw0 ?_
      refine e_ineg (pc' := 46) dX5_release_45 rfl ?_
      refine e_cv1v (pc' := 49) dX5_release_46 rfl k_5_64 h_14 rfl (Nat.le_of_ble_eq_true rfl) rfl rfl ⟨rfl, rfl⟩ ⟨Nat.zero_le _, Nat.zero_le _⟩ (s_addStep_14 n st ws br dg wu fl hI1 hk1' (-w)) ?_
      rintro τ2 ⟨hI2, hF2⟩
      refine e_goto (pc' := 0) dX5_release_49 (by decide) ?_
      have e : rlS k (w :: ws) st = rlS k ws (adL (-w) st) := by show (if _ then _ else _) = _; rw [if_pos (by omega)]
      rw [e]
      refine (ih (adL (-w) st) τ2 hI2 ⟨adL_len hk1, by show ws.length ≤ 40; omega, hk3, hk4, hk5, hk6, fun x q => hk7 x (List.mem_cons_of_mem _ q)⟩).imp ?_
      rintro v σ' ⟨hv, hr, hF⟩
      exact ⟨hv, hr, hF1.tr (hF2.tr hF)⟩
