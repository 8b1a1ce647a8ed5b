/-! the reading once more, names of any value -/
def dsQ (t : Int → Int64) (g : Int) (st : List Int64) : List Int64 := if g = 115 then pushS (t 0) st else if g = 110 then pushS (t 1) st else if g = 109 then pushS (t 2) st else if g = 108 then pushS (t 3) st else if g = 114 then pushS (t 4) st else if g = 33 then pushS (if popV st = 0 then 1 else 0) (popR st) else if g = 126 then pushS (-(popV st)) (popR st) else pushS (jnS g (popV (popR st)) (popV st)) (popR (popR st))
/-! what steps come to, and signs as the reference holds them -/
def evQ (t : Int → Int64) : List Int → List Int64
  | [] => []
  | s :: r => if 0 ≤ s then pushS (Int64.ofInt s) (evQ t r) else dsQ t (-s) (evQ t r)
theorem dsQ_le (t : Int → Int64) (g : Int) (st : List Int64) : (dsQ t g st).length ≤ st.length + 1 := by
  have h1 := popR_le st
  have h2 := popR_le (popR st)
  unfold dsQ
  repeat' split
  all_goals (refine Nat.le_trans (pushS_le _ _) ?_; omega)
theorem evQ_len (t : Int → Int64) : ∀ l : List Int, (evQ t l).length ≤ l.length
  | [] => Nat.le_refl _
  | s :: r => by
    have h := evQ_len t r
    have hl : (s :: r).length = r.length + 1 := rfl
    unfold evQ
    split
    · exact Nat.le_trans (pushS_le _ _) (by omega)
    · exact Nat.le_trans (dsQ_le _ _ _) (by omega)
theorem spM_rlQ (t : Int → Int64) : ∀ (wt st : List Int) (v : Int64) (vs : List Int64), okW wt → st.length + wt.length ≤ 40 → evQ t st = v :: vs → ∃ v', spM (wt.map mcS) v = ((rlS 6 wt st).1.map mcS, v') ∧ evQ t (rlS 6 wt st).2 = v' :: vs ∧ npT (rlS 6 wt st).1 ∧ okW (rlS 6 wt st).1 ∧ (rlS 6 wt st).2.length + (rlS 6 wt st).1.length = st.length + wt.length ∧ bnS (rlS 6 wt st).1 = bnS wt ∧ opS (rlS 6 wt st).1 = opS wt
  | [], st, v, vs, _, hl, he => ⟨v, rfl, he, trivial, trivial, rfl, rfl, rfl⟩
  | w :: ws, st, v, vs, hw, hl, he => by
    have hl2 : (w :: ws).length = ws.length + 1 := rfl
    have hev := evQ_len t st
    rw [he] at hev
    have hev2 : (v :: vs).length = vs.length + 1 := rfl
    by_cases hp : w = 33 ∨ w = 126
    · have hk : 6 ≤ rkS w := (rk6_iff w).mpr hp
      have e1 : rlS 6 (w :: ws) st = rlS 6 ws (-w :: st) := by
        show (if 6 ≤ rkS w then _ else _) = _
        rw [if_pos hk, adL_c (by omega)]
      have hb : ¬ isB w := fun q => by have := q.2; omega
      rcases hp with rfl | rfl
      · obtain ⟨v', a, b, c⟩ := spM_rlQ t ws (-33 :: st) (if v = 0 then 1 else 0) vs hw.2.2 (by show st.length + 1 + ws.length ≤ 40; omega) (by show dsQ t 33 (evQ t st) = _; rw [he]; exact pushS_c (l := vs) (by omega))
        rw [e1]
        refine ⟨v', a, b, c.1, c.2.1, ?_, ?_, ?_⟩
        · rw [c.2.2.1]; show st.length + 1 + ws.length = st.length + (ws.length + 1); omega
        · rw [c.2.2.2.1, bn_n hb]
        · rw [c.2.2.2.2, op_n (by decide)]
      · obtain ⟨v', a, b, c⟩ := spM_rlQ t ws (-126 :: st) (-v) vs hw.2.2 (by show st.length + 1 + ws.length ≤ 40; omega) (by show dsQ t 126 (evQ t st) = _; rw [he]; exact pushS_c (l := vs) (by omega))
        rw [e1]
        refine ⟨v', a, b, c.1, c.2.1, ?_, ?_, ?_⟩
        · rw [c.2.2.1]; show st.length + 1 + ws.length = st.length + (ws.length + 1); omega
        · rw [c.2.2.2.1, bn_n hb]
        · rw [c.2.2.2.2, op_n (by decide)]
    · have e1 : rlS 6 (w :: ws) st = (w :: ws, st) := by
        show (if 6 ≤ rkS w then _ else _) = _
        rw [if_neg (fun q => hp ((rk6_iff w).mp q))]
      rw [e1]
      refine ⟨v, ?_, he, hp, hw, rfl, rfl, rfl⟩
      show (if 1000 < mcS w then _ else _) = _
      have hm : ¬ 1000 < mcS w := by
        rcases hw.1 with h | h | h | h
        · rw [mcS_B h]; have := (isB_iff w).mp h; omega
        · exact absurd (Or.inl h) hp
        · exact absurd (Or.inr h) hp
        · subst h; decide
      rw [if_neg hm]
      rfl
theorem ds_BQ (t : Int → Int64) {w : Int} (h : isB w) (vs : List Int64) : dsQ t w vs = pushS (jnS w (popV (popR vs)) (popV vs)) (popR (popR vs)) := by
  have := (isB_iff w).mp h
  unfold dsQ
  rw [if_neg (by omega), if_neg (by omega), if_neg (by omega), if_neg (by omega), if_neg (by omega), if_neg (by omega), if_neg (by omega)]
theorem wdM_rlQ (t : Int → Int64) {k : Int} (hk : 1 ≤ k ∧ k ≤ 5) : ∀ (wt st : List Int) (vs : List Int64), okW wt → npT wt → st.length + wt.length ≤ 40 → evQ t st = vs → bnS wt + 1 ≤ vs.length → wdM k (wt.map mcS) vs = ((rlS k wt st).1.map mcS, evQ t (rlS k wt st).2) ∧ npT (rlS k wt st).1 ∧ okW (rlS k wt st).1 ∧ (rlS k wt st).2.length + (rlS k wt st).1.length = st.length + wt.length ∧ (evQ t (rlS k wt st).2).length + bnS wt = vs.length + bnS (rlS k wt st).1 ∧ opS (rlS k wt st).1 = opS wt
  | [], st, vs, _, _, hl, he, _ => ⟨by rw [← he]; rfl, trivial, trivial, rfl, by rw [← he]; rfl, rfl⟩
  | w :: ws, st, vs, hw, hn, hl, he, hb => by
    have hl2 : (w :: ws).length = ws.length + 1 := rfl
    have hev := evQ_len t st
    rw [he] at hev
    by_cases hk2 : k ≤ rkS w
    · have hB : isB w := by
        refine ⟨by omega, ?_⟩
        rcases hw.1 with h | h | h | h
        · exact h.2
        · exact absurd (Or.inl h) hn
        · exact absurd (Or.inr h) hn
        · subst h; exact absurd hk2 (by have : rkS 40 = 0 := by decide
                                        omega)
      have hBc := (isB_iff w).mp hB
      have e1 : rlS k (w :: ws) st = rlS k ws (-w :: st) := by
        show (if k ≤ rkS w then _ else _) = _
        rw [if_pos hk2, adL_c (by omega)]
      rw [bn_B hB] at hb
      have hpl : (popR (popR vs)).length + 2 = vs.length := by
        unfold popR
        rw [List.length_tail, List.length_tail]
        omega
      have e2 : evQ t (-w :: st) = jnS w (popV (popR vs)) (popV vs) :: popR (popR vs) := by
        show (if 0 ≤ -w then _ else dsQ t (-(-w)) (evQ t st)) = _
        rw [if_neg (by omega), Int.neg_neg, he, ds_BQ t hB, pushS_c (by omega)]
      have hc : (jnS w (popV (popR vs)) (popV vs) :: popR (popR vs)).length = (popR (popR vs)).length + 1 := rfl
      have ih := wdM_rlQ t hk ws (-w :: st) _ hw.2.2 (hw.2.1 hB) (by show st.length + 1 + ws.length ≤ 40; omega) e2 (by omega)
      rw [e1]
      refine ⟨?_, ih.2.1, ih.2.2.1, ?_, ?_, ?_⟩
      · show (if mcS w < 1000 ∧ k ≤ rmS (mcS w) then wdM k (ws.map mcS) (jnS (mcS w) (popV (popR vs)) (popV vs) :: popR (popR vs)) else _) = _
        rw [mcS_B hB, if_pos ⟨by omega, by rw [rm_rk hB]; exact hk2⟩]
        exact ih.1
      · rw [ih.2.2.2.1]; show st.length + 1 + ws.length = st.length + (ws.length + 1); omega
      · have := ih.2.2.2.2.1
        rw [bn_B hB]
        omega
      · rw [ih.2.2.2.2.2, op_n (by omega)]
    · have e1 : rlS k (w :: ws) st = (w :: ws, st) := by
        show (if k ≤ rkS w then _ else _) = _
        rw [if_neg hk2]
      rw [e1]
      refine ⟨?_, hn, hw, rfl, by rw [he], rfl⟩
      show (if mcS w < 1000 ∧ k ≤ rmS (mcS w) then _ else _) = _
      rw [if_neg, he]
      · rfl
      · rintro ⟨h1, h2⟩
        rcases hw.1 with h | h | h | h
        · rw [mcS_B h, rm_rk h] at h2; exact hk2 h2
        · exact hn (Or.inl h)
        · exact hn (Or.inr h)
        · subst h; exact absurd h1 (by decide)
/-! the class's reader and the reference's, side by side -/
def RQ1 (t : Int → Int64) (T : Int → Int) (p : Nat) (op : Int) (vs : List Int64) (ss : List Int) : Prop := ∃ st wt, rdS T p = (st, wt, op, 0, 1, -1) ∧ okW wt ∧ st.length + wt.length ≤ p ∧ (opS wt : Int) = op ∧ ss = wt.map mcS ∧ vs = evQ t st ∧ vs.length = bnS wt
def RQ0 (t : Int → Int64) (T : Int → Int) (n p : Nat) (op : Int) (vs : List Int64) (ss : List Int) : Prop := ∃ st wt dg, rdS T p = (st, wt, op, dg, 0, -1) ∧ okW wt ∧ st.length + wt.length ≤ p ∧ (opS wt : Int) = op ∧ (dg = 0 ∨ p = n ∨ ¬ isD (T p)) ∧ ∃ st' wt', rlS 6 wt st = (wt', st') ∧ okW wt' ∧ npT wt' ∧ ss = wt'.map mcS ∧ vs = evQ t st' ∧ vs.length = bnS wt' + 1 ∧ st'.length + wt'.length ≤ p ∧ opS wt' = opS wt
theorem RQ1_rg {t : Int → Int64} {T : Int → Int} {p : Nat} {op : Int} {vs : List Int64} {ss : List Int} (h : RQ1 t T p op vs ss) (hp : p ≤ 40) : sgR ss ∧ ss.length ≤ 40 ∧ vs.length ≤ 40 ∧ 0 ≤ op ∧ op ≤ 40 := by
  obtain ⟨st, wt, h1, h2, h3, h4, rfl, rfl, h7⟩ := h
  have := evQ_len t st
  refine ⟨(sg_map h2).1, by rw [List.length_map]; omega, by omega, by omega, ?_⟩
  have : opS wt ≤ wt.length := opS_le wt
  omega
theorem RQ0_rg {t : Int → Int64} {T : Int → Int} {n p : Nat} {op : Int} {vs : List Int64} {ss : List Int} (h : RQ0 t T n p op vs ss) (hp : p ≤ 40) : sgR ss ∧ ss.length ≤ 40 ∧ vs.length ≤ 40 ∧ bnM ss + 1 ≤ vs.length ∧ 0 ≤ op ∧ op ≤ 40 := by
  obtain ⟨st, wt, dg, h1, h2, h3, h4, h5, st', wt', h6, h7, h8, rfl, rfl, h11, h12, h13⟩ := h
  have := evQ_len t st'
  refine ⟨(sg_map h7).1, by rw [List.length_map]; omega, by omega, by rw [(sg_map h7).2]; omega, by omega, ?_⟩
  have : opS wt ≤ wt.length := opS_le wt
  omega
theorem t_blank1Q {t : Int → Int64} {T : Int → Int} {op : Int} {vs : List Int64} {ss : List Int} : ∀ (k p q : Nat), q - p ≤ k → p ≤ q → (∀ j : Int, p ≤ j → j < q → T j = 32) → RQ1 t T p op vs ss → RQ1 t T q op vs ss
  | 0, p, q, h, hp, _, r => by have : p = q := by omega
                               subst this; exact r
  | k + 1, p, q, h, hp, hb, r => by
    by_cases e : p = q
    · subst e; exact r
    · refine t_blank1Q k (p + 1) q (by omega) (by omega) (fun j a b => hb j (by omega) b) ?_
      obtain ⟨st, wt, h1, h2, h3, h4⟩ := r
      refine ⟨st, wt, ?_, h2, by omega, h4⟩
      rw [rd_step h1 rfl, hb p (by omega) (by omega)]
      rfl
theorem t_blank0Q {t : Int → Int64} {T : Int → Int} {n : Nat} {op : Int} {vs : List Int64} {ss : List Int} : ∀ (k p q : Nat), q - p ≤ k → p ≤ q → (∀ j : Int, p ≤ j → j < q → T j = 32) → RQ0 t T n p op vs ss → RQ0 t T n q op vs ss
  | 0, p, q, h, hp, _, r => by have : p = q := by omega
                               subst this; exact r
  | k + 1, p, q, h, hp, hb, r => by
    by_cases e : p = q
    · subst e; exact r
    · refine t_blank0Q k (p + 1) q (by omega) (by omega) (fun j a b => hb j (by omega) b) ?_
      obtain ⟨st, wt, dg, h1, h2, h3, h4, h5, st', wt', h6, h7, h8, h9, h10, h11, h12, h13⟩ := r
      refine ⟨st, wt, 0, ?_, h2, by omega, h4, Or.inl rfl, st', wt', h6, h7, h8, h9, h10, h11, by omega, h13⟩
      rw [rd_step h1 rfl, hb p (by omega) (by omega)]
      rfl
theorem t_digQ {t : Int → Int64} {T : Int → Int} {n p : Nat} {op : Int} {vs : List Int64} {ss : List Int} (h : RQ1 t T p op vs ss) {m : Nat} (h1 : 1 ≤ m) (h6 : m ≤ 6) (hd : ∀ j : Nat, j < m → isD (T (p + j))) (hn : p + m ≤ 40) (he : p + m = n ∨ ¬ isD (T ((p + m : Nat) : Int))) : RQ0 t T n (p + m) op ((spM ss (Int64.ofInt (dvS T p m))).2 :: vs) (spM ss (Int64.ofInt (dvS T p m))).1 := by
  obtain ⟨st, wt, a1, a2, a3, a4, rfl, rfl, a7⟩ := h
  have hv := evQ_len t st
  have r := rd_digits a1 (by omega) m h1 h6 hd
  have ev : evQ t (dvS T p m :: st) = Int64.ofInt (dvS T p m) :: evQ t st := by
    show (if 0 ≤ dvS T p m then _ else _) = _
    rw [if_pos (dv_nn m hd), pushS_c (by omega)]
  have hl2 : (dvS T p m :: st).length = st.length + 1 := rfl
  obtain ⟨v', b1, b2, b3, b4, b5, b6, b7⟩ := spM_rlQ t wt (dvS T p m :: st) _ _ a2 (by omega) ev
  rw [b1]
  refine ⟨_, wt, _, r, a2, by omega, a4, Or.inr he, _, _, rfl, b4, b3, rfl, b2.symm, ?_, by omega, b7⟩
  show (evQ t st).length + 1 = _
  rw [b6, a7]
theorem t_dig7Q {t : Int → Int64} {T : Int → Int} {n p : Nat} {op : Int} {vs : List Int64} {ss : List Int} (h : RQ1 t T p op vs ss) (hp : p < 40) (hd : ∀ j : Nat, j < 6 → isD (T (p + j))) (hn : p + 6 < n) (h7 : isD (T ((p : Int) + 6))) : (fnS T n).2.2.2.2.2 = 10 * (p : Int) + 2 := by
  obtain ⟨st, wt, a1, a2, a3, a4, a5⟩ := h
  have r := rd_digits a1 (by omega) 6 (by omega) (by omega) hd
  refine ofl (m := p + 6 + 1) ?_ (by omega) (by omega)
  rw [rd_step r rfl]
  have e1 : ((p + 6 : Nat) : Int) = (p : Int) + 6 := by omega
  rw [e1]
  unfold chS
  rw [if_pos (show 48 ≤ T ((p : Int) + 6) ∧ T ((p : Int) + 6) ≤ 57 from h7)]
  unfold dgS
  dsimp only
  rw [if_pos rfl]
  show 10 * ((p : Int) + 6 - 6) + 2 = _
  omega
theorem ds_nmQ (t : Int → Int64) {c : Int} (h : ¬ nmS c = -1) (vs : List Int64) : dsQ t c vs = pushS (t (nmS c)) vs := by
  rcases (nm_iff c).mp h with q | q | q | q | q <;> subst q <;> rfl
theorem t_namQ {t : Int → Int64} {T : Int → Int} {n p : Nat} {op : Int} {vs : List Int64} {ss : List Int} (h : RQ1 t T p op vs ss) (hp : p < 40) (hc : ¬ nmS (T p) = -1) : RQ0 t T n (p + 1) op ((spM ss (t (nmS (T p)))).2 :: vs) (spM ss (t (nmS (T p)))).1 := by
  obtain ⟨st, wt, a1, a2, a3, a4, rfl, rfl, a7⟩ := h
  have hv := evQ_len t st
  have hcs := (nm_iff (T p)).mp hc
  have r : rdS T (p + 1) = (-(T p) :: st, wt, op, 0, 0, -1) := by
    rw [rd_step a1 rfl]
    unfold chS
    rw [if_neg (by omega), if_neg (by omega)]
    dsimp only
    rw [if_neg (by decide)]
    unfold cuS d0S
    dsimp only
    rw [if_pos hcs, adL_c (by omega)]
    rfl
  have ev : evQ t (-(T p) :: st) = t (nmS (T p)) :: evQ t st := by
    show (if 0 ≤ -(T p) then _ else dsQ t (-(-(T p))) (evQ t st)) = _
    rw [if_neg (by omega), Int.neg_neg, ds_nmQ t hc, pushS_c (by omega)]
  have hl2 : (-(T p) :: st).length = st.length + 1 := rfl
  obtain ⟨v', b1, b2, b3, b4, b5, b6, b7⟩ := spM_rlQ t wt (-(T p) :: st) _ _ a2 (by omega) ev
  rw [b1]
  refine ⟨_, wt, _, r, a2, by omega, a4, Or.inl rfl, _, _, rfl, b4, b3, rfl, b2.symm, ?_, by omega, b7⟩
  show (evQ t st).length + 1 = _
  rw [b6, a7]
theorem t_preQ {t : Int → Int64} {T : Int → Int} {p : Nat} {op : Int} {vs : List Int64} {ss : List Int} (h : RQ1 t T p op vs ss) (hp : p < 40) (hc : T p = 33 ∨ T p = 45) : RQ1 t T (p + 1) op vs ((if T p = 33 then 1001 else 1002) :: ss) := by
  obtain ⟨st, wt, a1, a2, a3, a4, rfl, rfl, a7⟩ := h
  have hnb : ∀ x : Int, x = 33 ∨ x = 126 → ¬ isB x := fun x q z => by have := (isB_iff x).mp z; omega
  rcases hc with hc | hc
  · refine ⟨st, 33 :: wt, ?_, ⟨Or.inr (Or.inl rfl), fun z => absurd z (hnb _ (Or.inl rfl)), a2⟩, by show st.length + (wt.length + 1) ≤ p + 1; omega, by rw [op_n (by decide)]; exact a4, by rw [if_pos hc]; rfl, rfl, by rw [bn_n (hnb _ (Or.inl rfl))]; exact a7⟩
    rw [rd_step a1 rfl, hc]
    show flS (cuS (st, wt, op, 0, 1, -1) p 33) p = _
    unfold cuS
    rw [if_neg (by decide), if_pos rfl]
    dsimp only
    rw [adL_c (by omega)]
    rfl
  · refine ⟨st, 126 :: wt, ?_, ⟨Or.inr (Or.inr (Or.inl rfl)), fun z => absurd z (hnb _ (Or.inr rfl)), a2⟩, by show st.length + (wt.length + 1) ≤ p + 1; omega, by rw [op_n (by decide)]; exact a4, by rw [if_neg (by omega)]; rfl, rfl, by rw [bn_n (hnb _ (Or.inr rfl))]; exact a7⟩
    rw [rd_step a1 rfl, hc]
    show flS (cuS (st, wt, op, 0, 1, -1) p 45) p = _
    unfold cuS
    rw [if_neg (by decide), if_neg (by decide), if_pos rfl]
    dsimp only
    rw [adL_c (by omega)]
    rfl
theorem t_opnQ {t : Int → Int64} {T : Int → Int} {p : Nat} {op : Int} {vs : List Int64} {ss : List Int} (h : RQ1 t T p op vs ss) (hp : p < 40) (hc : T p = 40) (ho : op < 8) : RQ1 t T (p + 1) (op + 1) vs (1000 :: ss) := by
  obtain ⟨st, wt, a1, a2, a3, a4, rfl, rfl, a7⟩ := h
  have hnb : ¬ isB 40 := fun z => by have := (isB_iff 40).mp z; omega
  refine ⟨st, 40 :: wt, ?_, ⟨Or.inr (Or.inr (Or.inr rfl)), fun z => absurd z hnb, a2⟩, by show st.length + (wt.length + 1) ≤ p + 1; omega, ?_, rfl, rfl, by rw [bn_n hnb]; exact a7⟩
  · rw [rd_step a1 rfl, hc]
    show flS (cuS (st, wt, op, 0, 1, -1) p 40) p = _
    unfold cuS
    rw [if_neg (by decide), if_neg (by decide), if_neg (by decide), if_pos rfl]
    dsimp only
    rw [if_pos ho, adL_c (by omega)]
    rfl
  · show ((opS wt + (if (40 : Int) = 40 then 1 else 0) : Nat) : Int) = op + 1
    rw [if_pos rfl]
    omega
theorem t_bad1Q {t : Int → Int64} {T : Int → Int} {n p : Nat} {op : Int} {vs : List Int64} {ss : List Int} (h : RQ1 t T p op vs ss) (hp : p < n) (h32 : ¬ T p = 32) (hd : ¬ (48 ≤ T p ∧ T p ≤ 57)) (hm : nmS (T p) = -1) (h33 : ¬ T p = 33) (h45 : ¬ T p = 45) (h40 : ¬ (T p = 40 ∧ op < 8)) : (fnS T n).2.2.2.2.2 = 10 * (p : Int) + (if T p = 40 then 3 else 1) := by
  obtain ⟨st, wt, a1, a2⟩ := h
  have hcs : ¬ (T p = 115 ∨ T p = 110 ∨ T p = 109 ∨ T p = 108 ∨ T p = 114) := fun q => (nm_iff (T p)).mpr q hm
  refine ofl (m := p + 1) ?_ (by split <;> omega) (by omega)
  rw [rd_step a1 rfl]
  unfold chS
  rw [if_neg hd, if_neg h32]
  dsimp only
  rw [if_neg (by decide)]
  unfold cuS d0S
  dsimp only
  rw [if_neg hcs, if_neg h33, if_neg h45]
  by_cases h4 : T p = 40
  · rw [if_pos h4, if_neg (fun q => h40 ⟨h4, q⟩), if_pos h4]
    unfold flS
    rw [if_neg (fun q => by have := q.2; dsimp only at this; omega)]
  · rw [if_neg h4, if_neg h4]
    rfl
theorem t_end1Q {t : Int → Int64} {T : Int → Int} {n : Nat} {op : Int} {vs : List Int64} {ss : List Int} (h : RQ1 t T n op vs ss) : (fnS T n).2.2.2.2.2 = 10 * (n : Int) + 1 := by
  obtain ⟨st, wt, a1, a2⟩ := h
  unfold fnS
  dsimp only
  rw [a1, if_pos ⟨rfl, Or.inl rfl⟩]
theorem t_clsQ {t : Int → Int64} {T : Int → Int} {n p : Nat} {op : Int} {vs : List Int64} {ss : List Int} (h : RQ0 t T n p op vs ss) (hp : p < 40) (hc : T p = 41) (ho : 0 < op) : ∃ ss2 v vs2, wdM 1 ss vs = (1000 :: ss2, v :: vs2) ∧ RQ0 t T n (p + 1) (op - 1) ((spM ss2 v).2 :: vs2) (spM ss2 v).1 ∧ sgR ss2 ∧ ss2.length ≤ 40 ∧ vs2.length ≤ 40 := by
  obtain ⟨st, wt, dg, h1, h2, h3, h4, h5, st', wt', h6, h7, h8, rfl, rfl, h11, h12, h13⟩ := h
  have e1 := rl_rl (k := 1) (by decide) wt st
  rw [h6] at e1
  dsimp only at e1
  obtain ⟨b1, b2, b3, b4, b5, b6⟩ := wdM_rlQ t (k := 1) (by decide) wt' st' _ h7 h8 (by omega) rfl (by omega)
  have hev := evQ_len t (rlS 1 wt' st').2
  rcases rl1_top wt' st' h7 with q | ⟨ws, q⟩
  · rw [q] at b6
    have : opS ([] : List Int) = 0 := rfl
    omega
  · rw [q] at b1 b3 b4 b5 b6
    have hws : (40 :: ws).length = ws.length + 1 := rfl
    have hnb : ¬ isB 40 := fun z => by have := (isB_iff 40).mp z; omega
    rw [bn_n hnb] at b5
    cases hv : evQ t (rlS 1 wt' st').2 with
    | nil => rw [hv] at b5; have : ([] : List Int64).length = 0 := rfl
             omega
    | cons v vs2 =>
      have hvl : (v :: vs2).length = vs2.length + 1 := rfl
      rw [hv] at b1 b5 hev
      obtain ⟨v', c1, c2, c3, c4, c5, c6, c7⟩ := spM_rlQ t ws (rlS 1 wt' st').2 v vs2 b3.2.2 (by omega) hv
      refine ⟨ws.map mcS, v, vs2, b1, ?_, (sg_map b3.2.2).1, by rw [List.length_map]; omega, by omega⟩
      rw [c1]
      have hop : opS (40 :: ws) = opS ws + 1 := rfl
      refine ⟨(rlS 1 wt' st').2, ws, 0, ?_, b3.2.2, by omega, by omega, Or.inl rfl, _, _, rfl, c4, c3, rfl, c2.symm, ?_, by omega, c7⟩
      · rw [rd_beh h1 (by omega) (by omega), hc]
        have eb : buS (st, wt, op, 0, 0, -1) 41 = (((rlS 1 wt' st').2, ws, op - 1, 0, 0, -1), 1) := by
          unfold buS
          rw [if_pos rfl]
          unfold cbS
          dsimp only
          rw [if_neg (by omega), e1, q]
          rfl
        rw [eb]
        rfl
      · show vs2.length + 1 = _
        rw [c6]
        omega
theorem t_opQ {t : Int → Int64} {T : Int → Int} {n p : Nat} {op : Int} {vs : List Int64} {ss : List Int} (h : RQ0 t T n p op vs ss) (hp : p < 40) (hr : 1 ≤ rmS (T p)) {k : Int} (hk : k = if rmS (T p) = 3 then 4 else rmS (T p)) (hb : ¬ (rmS (T p) = 3 ∧ ∃ x l, (wdM k ss vs).1 = x :: l ∧ x < 1000 ∧ rmS x = 3)) : RQ1 t T (p + 1) op (wdM k ss vs).2 (T p :: (wdM k ss vs).1) ∧ sgR (wdM k ss vs).1 ∧ (wdM k ss vs).1.length ≤ 40 ∧ (wdM k ss vs).2.length ≤ 40 := by
  obtain ⟨st, wt, dg, h1, h2, h3, h4, h5, st', wt', h6, h7, h8, rfl, rfl, h11, h12, h13⟩ := h
  have hB := rm_B hr
  have hBc := (isB_iff (T p)).mp hB
  have hrk := rk_rm hr
  have hrg := rmS_rg (T p)
  have hk5 : 1 ≤ k ∧ k ≤ 5 := by subst hk; split <;> omega
  have e1 := rl_rl (k := k) (by omega) wt st
  rw [h6] at e1
  dsimp only at e1
  obtain ⟨b1, b2, b3, b4, b5, b6⟩ := wdM_rlQ t hk5 wt' st' _ h7 h8 (by omega) rfl (by omega)
  rw [b1] at hb ⊢
  have hev := evQ_len t (rlS k wt' st').2
  refine ⟨⟨(rlS k wt' st').2, T p :: (rlS k wt' st').1, ?_, ⟨Or.inl hB, fun _ => b2, b3⟩, by show _ + ((rlS k wt' st').1.length + 1) ≤ p + 1; omega, by rw [op_n (by omega), b6, h13]; exact h4, ?_, rfl, by rw [bn_B hB]; dsimp only; omega⟩, (sg_map b3).1, by dsimp only; rw [List.length_map]; omega, by dsimp only; omega⟩
  · rw [rd_beh h1 (by omega) (by omega)]
    have ek : krS (T p) = k := by rw [hk]; unfold krS; rw [hrk]
    have eb : buS (st, wt, op, 0, 0, -1) (T p) = (((rlS k wt' st').2, T p :: (rlS k wt' st').1, op, 0, 1, -1), 1) := by
      unfold buS
      dsimp only
      rw [if_neg (by omega), if_neg (by omega), ek, e1, if_neg, adL_c (by omega)]
      rintro ⟨q1, q2⟩
      refine hb ⟨by omega, ?_⟩
      cases hl : (rlS k wt' st').1 with
      | nil => rw [hl] at q2; exact absurd q2 (by decide)
      | cons x l =>
        rw [hl] at q2 b3
        have hx : isB x := by
          have : rkS x = 3 := q2
          exact ⟨by omega, by omega⟩
        have hxc := (isB_iff x).mp hx
        refine ⟨x, l.map mcS, by show mcS x :: l.map mcS = _; rw [mcS_B hx], by omega, by rw [rm_rk hx]; exact q2⟩
    rw [eb]
    rfl
  · show T p :: (rlS k wt' st').1.map mcS = mcS (T p) :: (rlS k wt' st').1.map mcS
    rw [mcS_B hB]
theorem t_opbQ {t : Int → Int64} {T : Int → Int} {n p : Nat} {op : Int} {vs : List Int64} {ss : List Int} (h : RQ0 t T n p op vs ss) (hn : p < n) (hp : p < 40) (hr : rmS (T p) = 3) {x : Int} {l : List Int} (hx : (wdM 4 ss vs).1 = x :: l) (hx1 : x < 1000) (hx3 : rmS x = 3) : (fnS T n).2.2.2.2.2 = 10 * (p : Int) + 1 := by
  obtain ⟨st, wt, dg, h1, h2, h3, h4, h5, st', wt', h6, h7, h8, rfl, rfl, h11, h12, h13⟩ := h
  have hB := rm_B (x := T p) (by omega)
  have hBc := (isB_iff (T p)).mp hB
  have hrk := rk_rm (c := T p) (by omega)
  have e1 := rl_rl (k := 4) (by decide) wt st
  rw [h6] at e1
  dsimp only at e1
  obtain ⟨b1, b2, b3, b4, b5, b6⟩ := wdM_rlQ t (k := 4) (by decide) wt' st' _ h7 h8 (by omega) rfl (by omega)
  rw [b1] at hx
  dsimp only at hx
  refine ofl (m := p + 1) ?_ (by omega) (by omega)
  rw [rd_beh h1 (by omega) (by omega)]
  have ek : krS (T p) = 4 := by unfold krS; rw [hrk, if_pos hr]
  cases hl : (rlS 4 wt' st').1 with
  | nil => rw [hl] at hx; cases hx
  | cons y l2 =>
    rw [hl] at hx b3
    have hxy : mcS y = x := by injection hx
    have hy : isB y := by
      rcases b3.1 with z | z | z | z
      · exact z
      · subst z; rw [← hxy] at hx1; exact absurd hx1 (by decide)
      · subst z; rw [← hxy] at hx1; exact absurd hx1 (by decide)
      · subst z; rw [← hxy] at hx1; exact absurd hx1 (by decide)
    rw [mcS_B hy] at hxy
    subst hxy
    have eb : buS (st, wt, op, 0, 0, -1) (T p) = (((rlS 4 wt' st').2, y :: l2, op, 0, 0, -1), 0) := by
      unfold buS
      dsimp only
      rw [if_neg (by omega), if_neg (by omega), ek, e1, hl, if_pos ⟨by omega, by show rkS y = 3; rw [← rm_rk hy]; exact hx3⟩]
    rw [eb]
    rfl
theorem t_end0Q {t : Int → Int64} {T : Int → Int} {n : Nat} {vs : List Int64} {ss : List Int} (h : RQ0 t T n n 0 vs ss) (hn : n ≤ 40) : ∃ v, wdM 1 ss vs = ([], [v]) ∧ (fnS T n).2.2.2.2.2 = -1 ∧ popV (evQ t (fnS T n).1) = v := by
  obtain ⟨st, wt, dg, h1, h2, h3, h4, h5, st', wt', h6, h7, h8, rfl, rfl, h11, h12, h13⟩ := h
  have e1 := rl_rl (k := 1) (by decide) wt st
  rw [h6] at e1
  dsimp only at e1
  obtain ⟨b1, b2, b3, b4, b5, b6⟩ := wdM_rlQ t (k := 1) (by decide) wt' st' _ h7 h8 (by omega) rfl (by omega)
  have hall := rl1_all wt' st' h7 (by omega)
  rw [hall] at b1 b5
  have hb0 : bnS ([] : List Int) = 0 := rfl
  have hf : (fnS T n).1 = (rlS 1 wt' st').2 := by
    unfold fnS
    dsimp only
    rw [h1, ← e1]
  match hv : evQ t (rlS 1 wt' st').2, b5 with
  | [], b5 => exact absurd b5 (by show ¬ 0 + bnS wt' = _; omega)
  | a :: b :: l, b5 => exact absurd b5 (by show ¬ (l.length + 1 + 1) + bnS wt' = _; omega)
  | [v], b5 =>
    refine ⟨v, by rw [b1, hv]; rfl, ?_, by rw [hf, hv]; rfl⟩
    unfold fnS
    dsimp only
    rw [h1, if_neg]
    rintro ⟨_, q | q⟩
    · exact absurd (show (0 : Int) = 1 from q) (by decide)
    · exact absurd (show (0 : Int) < 0 from q) (by decide)
theorem t_bad0Q {t : Int → Int64} {T : Int → Int} {n p : Nat} {op : Int} {vs : List Int64} {ss : List Int} (h : RQ0 t T n p op vs ss) (hp : p < n) (h32 : ¬ T p = 32) (h41 : ¬ (T p = 41 ∧ 0 < op)) (hr : rmS (T p) ≤ 0) : (fnS T n).2.2.2.2.2 = 10 * (p : Int) + 1 := by
  obtain ⟨st, wt, dg, h1, h2, h3, h4, h5, h6⟩ := h
  refine ofl (m := p + 1) ?_ (by omega) (by omega)
  by_cases hd : 48 ≤ T p ∧ T p ≤ 57
  · have hdg : dg = 0 := by
      rcases h5 with q | q | q
      · exact q
      · omega
      · exact absurd hd q
    subst hdg
    rw [rd_step h1 rfl]
    unfold chS
    rw [if_pos hd]
    unfold dgS
    dsimp only
    rw [if_neg (by decide), if_neg (by omega), if_pos rfl]
  · rw [rd_beh h1 h32 hd]
    have eb : buS (st, wt, op, 0, 0, -1) (T p) = ((st, wt, op, 0, 0, -1), 0) := by
      unfold buS
      by_cases h4' : T p = 41
      · rw [if_pos h4']
        unfold cbS
        dsimp only
        rw [if_pos (by omega)]
      · have hnB : ¬ isB (T p) := fun z => by have := z.1; rw [← rm_rk z] at this; omega
        have hrk := rkS_rg (T p)
        unfold isB at hnB
        rw [if_neg h4', if_pos (by omega)]
    rw [eb]
    rfl
theorem t_end0bQ {t : Int → Int64} {T : Int → Int} {n : Nat} {op : Int} {vs : List Int64} {ss : List Int} (h : RQ0 t T n n op vs ss) (ho : ¬ op = 0) : (fnS T n).2.2.2.2.2 = 10 * (n : Int) + 1 := by
  obtain ⟨st, wt, dg, h1, h2, h3, h4, h5, h6⟩ := h
  unfold fnS
  dsimp only
  rw [h1, if_pos ⟨rfl, Or.inr (by dsimp only; omega)⟩]

