/-! what steps come to, and signs as the reference holds them -/
def evL (t : ST) : List Int → List Int64
  | [] => []
  | s :: r => if 0 ≤ s then pushS (Int64.ofInt s) (evL t r) else dsS t (-s) (evL t r)
theorem pushS_le (v : Int64) (st : List Int64) : (pushS v st).length ≤ st.length + 1 := by
  unfold pushS
  split
  · exact Nat.le_refl _
  · omega
theorem popR_le (st : List Int64) : (popR st).length ≤ st.length := by
  unfold popR
  rw [List.length_tail]
  omega
theorem dsS_le (t : ST) (g : Int) (st : List Int64) : (dsS t g st).length ≤ st.length + 1 := by
  have h1 := popR_le st
  have h2 := popR_le (popR st)
  unfold dsS
  repeat' split
  all_goals (refine Nat.le_trans (pushS_le _ _) ?_; omega)
theorem evL_len (t : ST) : ∀ l : List Int, (evL t l).length ≤ l.length
  | [] => Nat.le_refl _
  | s :: r => by
    have h := evL_len t r
    have hl : (s :: r).length = r.length + 1 := rfl
    unfold evL
    split
    · exact Nat.le_trans (pushS_le _ _) (by omega)
    · exact Nat.le_trans (dsS_le _ _ _) (by omega)
theorem evS_evL (t : ST) (f : Int → Int) : ∀ l : List Int, isLst f l → evS t f l.length = evL t l
  | [], _ => rfl
  | s :: r, h => by
    have e := evS_evL t f r h.2
    show (if 0 ≤ f (r.length : Int) then pushS (Int64.ofInt (f (r.length : Int))) (evS t f r.length) else dsS t (-(f (r.length : Int))) (evS t f r.length)) = _
    rw [e, h.1]
    rfl
theorem evI_evL (t : ST) (f : Int → Int) {l : List Int} {n : Int} (hn : n = (l.length : Int)) (h : isLst f l) : evI t f n = evL t l := by
  subst hn
  unfold evI
  rw [Int.toNat_natCast]
  exact evS_evL t f l h
def mcS (x : Int) : Int := if x = 40 then 1000 else if x = 33 then 1001 else if x = 126 then 1002 else x
def isB (x : Int) : Prop := 1 ≤ rkS x ∧ rkS x ≤ 5
theorem isB_iff (x : Int) : isB x ↔ (x = 124 ∨ x = 38 ∨ x = 60 ∨ x = 62 ∨ x = 61 ∨ x = 43 ∨ x = 45 ∨ x = 42 ∨ x = 47) := by
  unfold isB rkS
  repeat' split
  all_goals omega
theorem rk6_iff (x : Int) : 6 ≤ rkS x ↔ (x = 33 ∨ x = 126) := by
  unfold rkS
  repeat' split
  all_goals omega
theorem rm_rk {x : Int} (h : isB x) : rmS x = rkS x := by
  rcases (isB_iff x).mp h with h | h | h | h | h | h | h | h | h <;> subst h <;> decide
theorem rm_B {x : Int} (h : 1 ≤ rmS x) : isB x := by
  rw [isB_iff]
  unfold rmS at h
  repeat' split at h
  all_goals omega
def okE (x : Int) : Prop := isB x ∨ x = 33 ∨ x = 126 ∨ x = 40
def npT : List Int → Prop
  | [] => True
  | x :: _ => ¬ (x = 33 ∨ x = 126)
def okW : List Int → Prop
  | [] => True
  | w :: ws => okE w ∧ (isB w → npT ws) ∧ okW ws
def bnS : List Int → Nat
  | [] => 0
  | w :: ws => bnS ws + (if 1 ≤ rkS w ∧ rkS w ≤ 5 then 1 else 0)
def opS : List Int → Nat
  | [] => 0
  | w :: ws => opS ws + (if w = 40 then 1 else 0)
def spM : List Int → Int64 → List Int × Int64
  | [], w => ([], w)
  | s :: ss, w => if 1000 < s then spM ss (if s = 1001 then (if w = 0 then 1 else 0) else -w) else (s :: ss, w)
def wdM (k : Int) : List Int → List Int64 → List Int × List Int64
  | [], vs => ([], vs)
  | s :: ss, vs => if s < 1000 ∧ k ≤ rmS s then wdM k ss (jnS s (popV (popR vs)) (popV vs) :: popR (popR vs)) else (s :: ss, vs)
theorem adL_c {x : Int} {l : List Int} (h : l.length < 40) : adL x l = x :: l := if_pos h
theorem pushS_c {v : Int64} {l : List Int64} (h : l.length < 40) : pushS v l = v :: l := if_pos h
theorem mcS_B {x : Int} (h : isB x) : mcS x = x := by
  have := (isB_iff x).mp h
  unfold mcS
  rw [if_neg (by omega), if_neg (by omega), if_neg (by omega)]
theorem bn_B {w : Int} {ws : List Int} (h : isB w) : bnS (w :: ws) = bnS ws + 1 := by
  unfold isB at h
  show bnS ws + (if 1 ≤ rkS w ∧ rkS w ≤ 5 then 1 else 0) = _
  rw [if_pos h]
theorem bn_n {w : Int} {ws : List Int} (h : ¬ isB w) : bnS (w :: ws) = bnS ws := by
  unfold isB at h
  show bnS ws + (if 1 ≤ rkS w ∧ rkS w ≤ 5 then 1 else 0) = _
  rw [if_neg h]
  rfl
theorem op_n {w : Int} {ws : List Int} (h : ¬ w = 40) : opS (w :: ws) = opS ws := by
  show opS ws + (if w = 40 then 1 else 0) = _
  rw [if_neg h]
  rfl
theorem spM_rl (t : ST) : ∀ (wt st : List Int) (v : Int64) (vs : List Int64), okW wt → st.length + wt.length ≤ 40 → evL t st = v :: vs → ∃ v', spM (wt.map mcS) v = ((rlS 6 wt st).1.map mcS, v') ∧ evL t (rlS 6 wt st).2 = v' :: vs ∧ npT (rlS 6 wt st).1 ∧ okW (rlS 6 wt st).1 ∧ (rlS 6 wt st).2.length + (rlS 6 wt st).1.length = st.length + wt.length ∧ bnS (rlS 6 wt st).1 = bnS wt ∧ opS (rlS 6 wt st).1 = opS wt
  | [], st, v, vs, _, hl, he => ⟨v, rfl, he, trivial, trivial, rfl, rfl, rfl⟩
  | w :: ws, st, v, vs, hw, hl, he => by
    have hl2 : (w :: ws).length = ws.length + 1 := rfl
    have hev := evL_len t st
    rw [he] at hev
    have hev2 : (v :: vs).length = vs.length + 1 := rfl
    by_cases hp : w = 33 ∨ w = 126
    · have hk : 6 ≤ rkS w := (rk6_iff w).mpr hp
      have e1 : rlS 6 (w :: ws) st = rlS 6 ws (-w :: st) := by
        show (if 6 ≤ rkS w then _ else _) = _
        rw [if_pos hk, adL_c (by omega)]
      have hb : ¬ isB w := fun q => by have := q.2; omega
      rcases hp with rfl | rfl
      · obtain ⟨v', a, b, c⟩ := spM_rl t ws (-33 :: st) (if v = 0 then 1 else 0) vs hw.2.2 (by show st.length + 1 + ws.length ≤ 40; omega) (by show dsS t 33 (evL t st) = _; rw [he]; exact pushS_c (l := vs) (by omega))
        rw [e1]
        refine ⟨v', a, b, c.1, c.2.1, ?_, ?_, ?_⟩
        · rw [c.2.2.1]; show st.length + 1 + ws.length = st.length + (ws.length + 1); omega
        · rw [c.2.2.2.1, bn_n hb]
        · rw [c.2.2.2.2, op_n (by decide)]
      · obtain ⟨v', a, b, c⟩ := spM_rl t ws (-126 :: st) (-v) vs hw.2.2 (by show st.length + 1 + ws.length ≤ 40; omega) (by show dsS t 126 (evL t st) = _; rw [he]; exact pushS_c (l := vs) (by omega))
        rw [e1]
        refine ⟨v', a, b, c.1, c.2.1, ?_, ?_, ?_⟩
        · rw [c.2.2.1]; show st.length + 1 + ws.length = st.length + (ws.length + 1); omega
        · rw [c.2.2.2.1, bn_n hb]
        · rw [c.2.2.2.2, op_n (by decide)]
    · have e1 : rlS 6 (w :: ws) st = (w :: ws, st) := by
        show (if 6 ≤ rkS w then _ else _) = _
        rw [if_neg (fun q => hp ((rk6_iff w).mp q))]
      rw [e1]
      refine ⟨v, ?_, he, hp, hw, rfl, rfl, rfl⟩
      show (if 1000 < mcS w then _ else _) = _
      have hm : ¬ 1000 < mcS w := by
        rcases hw.1 with h | h | h | h
        · rw [mcS_B h]; have := (isB_iff w).mp h; omega
        · exact absurd (Or.inl h) hp
        · exact absurd (Or.inr h) hp
        · subst h; decide
      rw [if_neg hm]
      rfl
theorem ds_B (t : ST) {w : Int} (h : isB w) (vs : List Int64) : dsS t w vs = pushS (jnS w (popV (popR vs)) (popV vs)) (popR (popR vs)) := by
  have := (isB_iff w).mp h
  unfold dsS
  rw [if_neg (by omega), if_neg (by omega), if_neg (by omega), if_neg (by omega), if_neg (by omega), if_neg (by omega), if_neg (by omega)]
theorem wdM_rl (t : ST) {k : Int} (hk : 1 ≤ k ∧ k ≤ 5) : ∀ (wt st : List Int) (vs : List Int64), okW wt → npT wt → st.length + wt.length ≤ 40 → evL t st = vs → bnS wt + 1 ≤ vs.length → wdM k (wt.map mcS) vs = ((rlS k wt st).1.map mcS, evL t (rlS k wt st).2) ∧ npT (rlS k wt st).1 ∧ okW (rlS k wt st).1 ∧ (rlS k wt st).2.length + (rlS k wt st).1.length = st.length + wt.length ∧ (evL t (rlS k wt st).2).length + bnS wt = vs.length + bnS (rlS k wt st).1 ∧ opS (rlS k wt st).1 = opS wt
  | [], st, vs, _, _, hl, he, _ => ⟨by rw [← he]; rfl, trivial, trivial, rfl, by rw [← he]; rfl, rfl⟩
  | w :: ws, st, vs, hw, hn, hl, he, hb => by
    have hl2 : (w :: ws).length = ws.length + 1 := rfl
    have hev := evL_len t st
    rw [he] at hev
    by_cases hk2 : k ≤ rkS w
    · have hB : isB w := by
        refine ⟨by omega, ?_⟩
        rcases hw.1 with h | h | h | h
        · exact h.2
        · exact absurd (Or.inl h) hn
        · exact absurd (Or.inr h) hn
        · subst h; exact absurd hk2 (by have : rkS 40 = 0 := by decide
                                        omega)
      have hBc := (isB_iff w).mp hB
      have e1 : rlS k (w :: ws) st = rlS k ws (-w :: st) := by
        show (if k ≤ rkS w then _ else _) = _
        rw [if_pos hk2, adL_c (by omega)]
      rw [bn_B hB] at hb
      have hpl : (popR (popR vs)).length + 2 = vs.length := by
        unfold popR
        rw [List.length_tail, List.length_tail]
        omega
      have e2 : evL t (-w :: st) = jnS w (popV (popR vs)) (popV vs) :: popR (popR vs) := by
        show (if 0 ≤ -w then _ else dsS t (-(-w)) (evL t st)) = _
        rw [if_neg (by omega), Int.neg_neg, he, ds_B t hB, pushS_c (by omega)]
      have hc : (jnS w (popV (popR vs)) (popV vs) :: popR (popR vs)).length = (popR (popR vs)).length + 1 := rfl
      have ih := wdM_rl t hk ws (-w :: st) _ hw.2.2 (hw.2.1 hB) (by show st.length + 1 + ws.length ≤ 40; omega) e2 (by omega)
      rw [e1]
      refine ⟨?_, ih.2.1, ih.2.2.1, ?_, ?_, ?_⟩
      · show (if mcS w < 1000 ∧ k ≤ rmS (mcS w) then wdM k (ws.map mcS) (jnS (mcS w) (popV (popR vs)) (popV vs) :: popR (popR vs)) else _) = _
        rw [mcS_B hB, if_pos ⟨by omega, by rw [rm_rk hB]; exact hk2⟩]
        exact ih.1
      · rw [ih.2.2.2.1]; show st.length + 1 + ws.length = st.length + (ws.length + 1); omega
      · have := ih.2.2.2.2.1
        rw [bn_B hB]
        omega
      · rw [ih.2.2.2.2.2, op_n (by omega)]
    · have e1 : rlS k (w :: ws) st = (w :: ws, st) := by
        show (if k ≤ rkS w then _ else _) = _
        rw [if_neg hk2]
      rw [e1]
      refine ⟨?_, hn, hw, rfl, by rw [he], rfl⟩
      show (if mcS w < 1000 ∧ k ≤ rmS (mcS w) then _ else _) = _
      rw [if_neg, he]
      · rfl
      · rintro ⟨h1, h2⟩
        rcases hw.1 with h | h | h | h
        · rw [mcS_B h, rm_rk h] at h2; exact hk2 h2
        · exact hn (Or.inl h)
        · exact hn (Or.inr h)
        · subst h; exact absurd h1 (by decide)
theorem rl_rl {k : Int} (hk : k ≤ 6) : ∀ (wt st : List Int), rlS k wt st = rlS k (rlS 6 wt st).1 (rlS 6 wt st).2
  | [], st => rfl
  | w :: ws, st => by
    by_cases h6 : 6 ≤ rkS w
    · have e1 : rlS 6 (w :: ws) st = rlS 6 ws (adL (-w) st) := if_pos h6
      have e2 : rlS k (w :: ws) st = rlS k ws (adL (-w) st) := if_pos (by omega)
      rw [e1, e2]
      exact rl_rl hk ws _
    · have e1 : rlS 6 (w :: ws) st = (w :: ws, st) := if_neg h6
      rw [e1]
theorem rl1_top : ∀ (wt st : List Int), okW wt → (rlS 1 wt st).1 = [] ∨ ∃ ws, (rlS 1 wt st).1 = 40 :: ws
  | [], st, _ => Or.inl rfl
  | w :: ws, st, h => by
    by_cases h1 : 1 ≤ rkS w
    · have e2 : rlS 1 (w :: ws) st = rlS 1 ws (adL (-w) st) := if_pos h1
      rw [e2]
      exact rl1_top ws _ h.2.2
    · have e2 : rlS 1 (w :: ws) st = (w :: ws, st) := if_neg h1
      rw [e2]
      refine Or.inr ⟨ws, ?_⟩
      rcases h.1 with q | q | q | q
      · exact absurd q.1 h1
      · subst q; exact absurd (by decide) h1
      · subst q; exact absurd (by decide) h1
      · rw [q]
theorem rl6_np : ∀ (wt st : List Int), okW wt → npT wt → rlS 6 wt st = (wt, st)
  | [], st, _, _ => rfl
  | w :: ws, st, _, h => if_neg (fun q => h ((rk6_iff w).mp q))
