/-! the class's reader and the reference's, side by side -/
def RL1 (t : ST) (T : Int → Int) (p : Nat) (op : Int) (vs : List Int64) (ss : List Int) : Prop := ∃ st wt, rdS T p = (st, wt, op, 0, 1, -1) ∧ okW wt ∧ st.length + wt.length ≤ p ∧ (opS wt : Int) = op ∧ ss = wt.map mcS ∧ vs = evL t st ∧ vs.length = bnS wt
def RL0 (t : ST) (T : Int → Int) (n p : Nat) (op : Int) (vs : List Int64) (ss : List Int) : Prop := ∃ st wt dg, rdS T p = (st, wt, op, dg, 0, -1) ∧ okW wt ∧ st.length + wt.length ≤ p ∧ (opS wt : Int) = op ∧ (dg = 0 ∨ p = n ∨ ¬ isD (T p)) ∧ ∃ st' wt', rlS 6 wt st = (wt', st') ∧ okW wt' ∧ npT wt' ∧ ss = wt'.map mcS ∧ vs = evL t st' ∧ vs.length = bnS wt' + 1 ∧ st'.length + wt'.length ≤ p ∧ opS wt' = opS wt
theorem sg_map : ∀ {wt : List Int}, okW wt → sgR (wt.map mcS) ∧ bnM (wt.map mcS) = bnS wt
  | [], _ => ⟨(fun s q => by cases q), rfl⟩
  | w :: ws, h => by
    have ih := sg_map h.2.2
    have hw : (0 ≤ mcS w ∧ mcS w ≤ 1002) ∧ (mcS w < 1000 ↔ isB w) := by
      rcases h.1 with q | q | q | q
      · rw [mcS_B q]
        have := (isB_iff w).mp q
        exact ⟨by omega, fun _ => q, fun _ => by omega⟩
      · subst q; exact ⟨by decide, fun z => absurd z (by decide), fun z => absurd ((isB_iff 33).mp z) (by decide)⟩
      · subst q; exact ⟨by decide, fun z => absurd z (by decide), fun z => absurd ((isB_iff 126).mp z) (by decide)⟩
      · subst q; exact ⟨by decide, fun z => absurd z (by decide), fun z => absurd ((isB_iff 40).mp z) (by decide)⟩
    refine ⟨fun s q => ?_, ?_⟩
    · cases q with
      | head => exact hw.1
      | tail _ q => exact ih.1 s q
    · show bnM (ws.map mcS) + (if mcS w < 1000 then 1 else 0) = _
      by_cases hb : isB w
      · rw [if_pos (hw.2.mpr hb), bn_B hb, ih.2]
      · rw [if_neg (fun z => hb (hw.2.mp z)), bn_n hb, ih.2]
        rfl
theorem opS_le : ∀ wt : List Int, opS wt ≤ wt.length
  | [] => Nat.le_refl _
  | w :: ws => by
    have := opS_le ws
    show opS ws + (if w = 40 then 1 else 0) ≤ ws.length + 1
    split <;> omega
theorem RL1_rg {t : ST} {T : Int → Int} {p : Nat} {op : Int} {vs : List Int64} {ss : List Int} (h : RL1 t T p op vs ss) (hp : p ≤ 40) : sgR ss ∧ ss.length ≤ 40 ∧ vs.length ≤ 40 ∧ 0 ≤ op ∧ op ≤ 40 := by
  obtain ⟨st, wt, h1, h2, h3, h4, rfl, rfl, h7⟩ := h
  have := evL_len t st
  refine ⟨(sg_map h2).1, by rw [List.length_map]; omega, by omega, by omega, ?_⟩
  have : opS wt ≤ wt.length := opS_le wt
  omega
theorem RL0_rg {t : ST} {T : Int → Int} {n p : Nat} {op : Int} {vs : List Int64} {ss : List Int} (h : RL0 t T n p op vs ss) (hp : p ≤ 40) : sgR ss ∧ ss.length ≤ 40 ∧ vs.length ≤ 40 ∧ bnM ss + 1 ≤ vs.length ∧ 0 ≤ op ∧ op ≤ 40 := by
  obtain ⟨st, wt, dg, h1, h2, h3, h4, h5, st', wt', h6, h7, h8, rfl, rfl, h11, h12, h13⟩ := h
  have := evL_len t st'
  refine ⟨(sg_map h7).1, by rw [List.length_map]; omega, by omega, by rw [(sg_map h7).2]; omega, by omega, ?_⟩
  have : opS wt ≤ wt.length := opS_le wt
  omega
theorem rd_step {T : Int → Int} {p : Nat} {s : RS} (h : rdS T p = s) (hf : s.2.2.2.2.2 = -1) : rdS T (p + 1) = chS s p (T p) := by
  subst h
  exact if_pos hf
theorem t_blank1 {t : ST} {T : Int → Int} {op : Int} {vs : List Int64} {ss : List Int} : ∀ (k p q : Nat), q - p ≤ k → p ≤ q → (∀ j : Int, p ≤ j → j < q → T j = 32) → RL1 t T p op vs ss → RL1 t T q op vs ss
  | 0, p, q, h, hp, _, r => by have : p = q := by omega
                               subst this; exact r
  | k + 1, p, q, h, hp, hb, r => by
    by_cases e : p = q
    · subst e; exact r
    · refine t_blank1 k (p + 1) q (by omega) (by omega) (fun j a b => hb j (by omega) b) ?_
      obtain ⟨st, wt, h1, h2, h3, h4⟩ := r
      refine ⟨st, wt, ?_, h2, by omega, h4⟩
      rw [rd_step h1 rfl, hb p (by omega) (by omega)]
      rfl
theorem t_blank0 {t : ST} {T : Int → Int} {n : Nat} {op : Int} {vs : List Int64} {ss : List Int} : ∀ (k p q : Nat), q - p ≤ k → p ≤ q → (∀ j : Int, p ≤ j → j < q → T j = 32) → RL0 t T n p op vs ss → RL0 t T n q op vs ss
  | 0, p, q, h, hp, _, r => by have : p = q := by omega
                               subst this; exact r
  | k + 1, p, q, h, hp, hb, r => by
    by_cases e : p = q
    · subst e; exact r
    · refine t_blank0 k (p + 1) q (by omega) (by omega) (fun j a b => hb j (by omega) b) ?_
      obtain ⟨st, wt, dg, h1, h2, h3, h4, h5, st', wt', h6, h7, h8, h9, h10, h11, h12, h13⟩ := r
      refine ⟨st, wt, 0, ?_, h2, by omega, h4, Or.inl rfl, st', wt', h6, h7, h8, h9, h10, h11, by omega, h13⟩
      rw [rd_step h1 rfl, hb p (by omega) (by omega)]
      rfl
theorem rd_digits {T : Int → Int} {p : Nat} {st wt : List Int} {br : Int} (h : rdS T p = (st, wt, br, 0, 1, -1)) (hl : st.length < 40) : ∀ m : Nat, 1 ≤ m → m ≤ 6 → (∀ j : Nat, j < m → isD (T (p + j))) → rdS T (p + m) = (dvS T p m :: st, wt, br, (m : Int), 0, -1)
  | 0, h1, _, _ => absurd h1 (by omega)
  | m + 1, h1, h6, hd => by
    by_cases hm : m = 0
    · subst hm
      have hd0 := hd 0 (by omega)
      have e0 : ((p : Int) + ((0 : Nat) : Int)) = (p : Int) := by omega
      rw [e0] at hd0
      rw [show p + (0 + 1) = p + 1 from rfl, rd_step h rfl]
      unfold chS
      rw [if_pos (show 48 ≤ T p ∧ T p ≤ 57 from hd0)]
      unfold dgS
      dsimp only
      rw [if_neg (by decide), if_neg (by omega), if_neg (by decide), adL_c hl]
      show ((T p - 48) :: st, wt, br, 1, 0, -1) = ((10 * 0 + (T ((p : Int) + ((0 : Nat) : Int)) - 48)) :: st, wt, br, ((0 + 1 : Nat) : Int), 0, -1)
      rw [e0]
      have e2 : 10 * 0 + (T p - 48) = T p - 48 := by omega
      rw [e2]
      rfl
    · have ih := rd_digits h hl m (by omega) (by omega) (fun j a => hd j (by omega))
      have hdm := hd m (by omega)
      have e1 : ((p + m : Nat) : Int) = (p : Int) + (m : Int) := by omega
      rw [show p + (m + 1) = (p + m) + 1 from rfl, rd_step ih rfl, e1]
      unfold chS
      rw [if_pos (show 48 ≤ T ((p : Int) + (m : Int)) ∧ T ((p : Int) + (m : Int)) ≤ 57 from hdm)]
      unfold dgS
      dsimp only
      have hl2 : (dvS T p m :: st).length = st.length + 1 := rfl
      rw [if_neg (by omega), if_pos ⟨by omega, by omega⟩]
      show ((10 * dvS T p m + (T ((p : Int) + (m : Int)) - 48)) :: st, wt, br, (m : Int) + 1, 0, -1) = _
      rfl
theorem dv_nn {T : Int → Int} {p : Int} : ∀ m : Nat, (∀ j : Nat, j < m → isD (T (p + j))) → 0 ≤ dvS T p m
  | 0, _ => Int.le_refl _
  | m + 1, h => by
    have ih := dv_nn m (fun j a => h j (by omega))
    have := h m (by omega)
    unfold isD at this
    show 0 ≤ 10 * dvS T p m + (T (p + m) - 48)
    omega
theorem ofl {T : Int → Int} {m n : Nat} {f : Int} (h : (rdS T m).2.2.2.2.2 = f) (hf : ¬ f = -1) (hm : m ≤ n) : (fnS T n).2.2.2.2.2 = f := by
  have e : rdS T n = rdS T m := rdS_stop (by rw [h]; exact hf) n hm
  unfold fnS
  dsimp only
  rw [e, h, if_neg (fun q => hf q.1)]
theorem t_dig {t : ST} {T : Int → Int} {n p : Nat} {op : Int} {vs : List Int64} {ss : List Int} (h : RL1 t T p op vs ss) {m : Nat} (h1 : 1 ≤ m) (h6 : m ≤ 6) (hd : ∀ j : Nat, j < m → isD (T (p + j))) (hn : p + m ≤ 40) (he : p + m = n ∨ ¬ isD (T ((p + m : Nat) : Int))) : RL0 t T n (p + m) op ((spM ss (Int64.ofInt (dvS T p m))).2 :: vs) (spM ss (Int64.ofInt (dvS T p m))).1 := by
  obtain ⟨st, wt, a1, a2, a3, a4, rfl, rfl, a7⟩ := h
  have hv := evL_len t st
  have r := rd_digits a1 (by omega) m h1 h6 hd
  have ev : evL t (dvS T p m :: st) = Int64.ofInt (dvS T p m) :: evL t st := by
    show (if 0 ≤ dvS T p m then _ else _) = _
    rw [if_pos (dv_nn m hd), pushS_c (by omega)]
  have hl2 : (dvS T p m :: st).length = st.length + 1 := rfl
  obtain ⟨v', b1, b2, b3, b4, b5, b6, b7⟩ := spM_rl t wt (dvS T p m :: st) _ _ a2 (by omega) ev
  rw [b1]
  refine ⟨_, wt, _, r, a2, by omega, a4, Or.inr he, _, _, rfl, b4, b3, rfl, b2.symm, ?_, by omega, b7⟩
  show (evL t st).length + 1 = _
  rw [b6, a7]
theorem t_dig7 {t : ST} {T : Int → Int} {n p : Nat} {op : Int} {vs : List Int64} {ss : List Int} (h : RL1 t T p op vs ss) (hp : p < 40) (hd : ∀ j : Nat, j < 6 → isD (T (p + j))) (hn : p + 6 < n) (h7 : isD (T ((p : Int) + 6))) : (fnS T n).2.2.2.2.2 = 10 * (p : Int) + 2 := by
  obtain ⟨st, wt, a1, a2, a3, a4, a5⟩ := h
  have r := rd_digits a1 (by omega) 6 (by omega) (by omega) hd
  refine ofl (m := p + 6 + 1) ?_ (by omega) (by omega)
  rw [rd_step r rfl]
  have e1 : ((p + 6 : Nat) : Int) = (p : Int) + 6 := by omega
  rw [e1]
  unfold chS
  rw [if_pos (show 48 ≤ T ((p : Int) + 6) ∧ T ((p : Int) + 6) ≤ 57 from h7)]
  unfold dgS
  dsimp only
  rw [if_pos rfl]
  show 10 * ((p : Int) + 6 - 6) + 2 = _
  omega
def nmV (t : ST) (i : Int) : Int64 := if i = 0 then Int64.ofInt t.1 else if i = 1 then Int64.ofInt t.2.1 else if i = 2 then Int64.ofInt t.2.2.1 else if i = 3 then Int64.ofInt t.2.2.2.1 else t.2.2.2.2 * t.2.2.2.2 / 1000000000000
theorem nm_iff (c : Int) : (¬ nmS c = -1) ↔ (c = 115 ∨ c = 110 ∨ c = 109 ∨ c = 108 ∨ c = 114) := by
  unfold nmS
  repeat' split
  all_goals omega
theorem ds_nm (t : ST) {c : Int} (h : ¬ nmS c = -1) (vs : List Int64) : dsS t c vs = pushS (nmV t (nmS c)) vs := by
  rcases (nm_iff c).mp h with q | q | q | q | q <;> subst q <;> rfl
theorem t_nam {t : ST} {T : Int → Int} {n p : Nat} {op : Int} {vs : List Int64} {ss : List Int} (h : RL1 t T p op vs ss) (hp : p < 40) (hc : ¬ nmS (T p) = -1) : RL0 t T n (p + 1) op ((spM ss (nmV t (nmS (T p)))).2 :: vs) (spM ss (nmV t (nmS (T p)))).1 := by
  obtain ⟨st, wt, a1, a2, a3, a4, rfl, rfl, a7⟩ := h
  have hv := evL_len t st
  have hcs := (nm_iff (T p)).mp hc
  have r : rdS T (p + 1) = (-(T p) :: st, wt, op, 0, 0, -1) := by
    rw [rd_step a1 rfl]
    unfold chS
    rw [if_neg (by omega), if_neg (by omega)]
    dsimp only
    rw [if_neg (by decide)]
    unfold cuS d0S
    dsimp only
    rw [if_pos hcs, adL_c (by omega)]
    rfl
  have ev : evL t (-(T p) :: st) = nmV t (nmS (T p)) :: evL t st := by
    show (if 0 ≤ -(T p) then _ else dsS t (-(-(T p))) (evL t st)) = _
    rw [if_neg (by omega), Int.neg_neg, ds_nm t hc, pushS_c (by omega)]
  have hl2 : (-(T p) :: st).length = st.length + 1 := rfl
  obtain ⟨v', b1, b2, b3, b4, b5, b6, b7⟩ := spM_rl t wt (-(T p) :: st) _ _ a2 (by omega) ev
  rw [b1]
  refine ⟨_, wt, _, r, a2, by omega, a4, Or.inl rfl, _, _, rfl, b4, b3, rfl, b2.symm, ?_, by omega, b7⟩
  show (evL t st).length + 1 = _
  rw [b6, a7]
theorem t_pre {t : ST} {T : Int → Int} {p : Nat} {op : Int} {vs : List Int64} {ss : List Int} (h : RL1 t T p op vs ss) (hp : p < 40) (hc : T p = 33 ∨ T p = 45) : RL1 t T (p + 1) op vs ((if T p = 33 then 1001 else 1002) :: ss) := by
  obtain ⟨st, wt, a1, a2, a3, a4, rfl, rfl, a7⟩ := h
  have hnb : ∀ x : Int, x = 33 ∨ x = 126 → ¬ isB x := fun x q z => by have := (isB_iff x).mp z; omega
  rcases hc with hc | hc
  · refine ⟨st, 33 :: wt, ?_, ⟨Or.inr (Or.inl rfl), fun z => absurd z (hnb _ (Or.inl rfl)), a2⟩, by show st.length + (wt.length + 1) ≤ p + 1; omega, by rw [op_n (by decide)]; exact a4, by rw [if_pos hc]; rfl, rfl, by rw [bn_n (hnb _ (Or.inl rfl))]; exact a7⟩
    rw [rd_step a1 rfl, hc]
    show flS (cuS (st, wt, op, 0, 1, -1) p 33) p = _
    unfold cuS
    rw [if_neg (by decide), if_pos rfl]
    dsimp only
    rw [adL_c (by omega)]
    rfl
  · refine ⟨st, 126 :: wt, ?_, ⟨Or.inr (Or.inr (Or.inl rfl)), fun z => absurd z (hnb _ (Or.inr rfl)), a2⟩, by show st.length + (wt.length + 1) ≤ p + 1; omega, by rw [op_n (by decide)]; exact a4, by rw [if_neg (by omega)]; rfl, rfl, by rw [bn_n (hnb _ (Or.inr rfl))]; exact a7⟩
    rw [rd_step a1 rfl, hc]
    show flS (cuS (st, wt, op, 0, 1, -1) p 45) p = _
    unfold cuS
    rw [if_neg (by decide), if_neg (by decide), if_pos rfl]
    dsimp only
    rw [adL_c (by omega)]
    rfl
theorem t_opn {t : ST} {T : Int → Int} {p : Nat} {op : Int} {vs : List Int64} {ss : List Int} (h : RL1 t T p op vs ss) (hp : p < 40) (hc : T p = 40) (ho : op < 8) : RL1 t T (p + 1) (op + 1) vs (1000 :: ss) := by
  obtain ⟨st, wt, a1, a2, a3, a4, rfl, rfl, a7⟩ := h
  have hnb : ¬ isB 40 := fun z => by have := (isB_iff 40).mp z; omega
  refine ⟨st, 40 :: wt, ?_, ⟨Or.inr (Or.inr (Or.inr rfl)), fun z => absurd z hnb, a2⟩, by show st.length + (wt.length + 1) ≤ p + 1; omega, ?_, rfl, rfl, by rw [bn_n hnb]; exact a7⟩
  · rw [rd_step a1 rfl, hc]
    show flS (cuS (st, wt, op, 0, 1, -1) p 40) p = _
    unfold cuS
    rw [if_neg (by decide), if_neg (by decide), if_neg (by decide), if_pos rfl]
    dsimp only
    rw [if_pos ho, adL_c (by omega)]
    rfl
  · show ((opS wt + (if (40 : Int) = 40 then 1 else 0) : Nat) : Int) = op + 1
    rw [if_pos rfl]
    omega
theorem t_bad1 {t : ST} {T : Int → Int} {n p : Nat} {op : Int} {vs : List Int64} {ss : List Int} (h : RL1 t T p op vs ss) (hp : p < n) (h32 : ¬ T p = 32) (hd : ¬ (48 ≤ T p ∧ T p ≤ 57)) (hm : nmS (T p) = -1) (h33 : ¬ T p = 33) (h45 : ¬ T p = 45) (h40 : ¬ (T p = 40 ∧ op < 8)) : (fnS T n).2.2.2.2.2 = 10 * (p : Int) + (if T p = 40 then 3 else 1) := by
  obtain ⟨st, wt, a1, a2⟩ := h
  have hcs : ¬ (T p = 115 ∨ T p = 110 ∨ T p = 109 ∨ T p = 108 ∨ T p = 114) := fun q => (nm_iff (T p)).mpr q hm
  refine ofl (m := p + 1) ?_ (by split <;> omega) (by omega)
  rw [rd_step a1 rfl]
  unfold chS
  rw [if_neg hd, if_neg h32]
  dsimp only
  rw [if_neg (by decide)]
  unfold cuS d0S
  dsimp only
  rw [if_neg hcs, if_neg h33, if_neg h45]
  by_cases h4 : T p = 40
  · rw [if_pos h4, if_neg (fun q => h40 ⟨h4, q⟩), if_pos h4]
    unfold flS
    rw [if_neg (fun q => by have := q.2; dsimp only at this; omega)]
  · rw [if_neg h4, if_neg h4]
    rfl
theorem t_end1 {t : ST} {T : Int → Int} {n : Nat} {op : Int} {vs : List Int64} {ss : List Int} (h : RL1 t T n op vs ss) : (fnS T n).2.2.2.2.2 = 10 * (n : Int) + 1 := by
  obtain ⟨st, wt, a1, a2⟩ := h
  unfold fnS
  dsimp only
  rw [a1, if_pos ⟨rfl, Or.inl rfl⟩]
theorem rd_beh {T : Int → Int} {p : Nat} {st wt : List Int} {op dg : Int} (h : rdS T p = (st, wt, op, dg, 0, -1)) (h32 : ¬ T p = 32) (hd : ¬ (48 ≤ T p ∧ T p ≤ 57)) : rdS T (p + 1) = flS (buS (st, wt, op, 0, 0, -1) (T p)) p := by
  rw [rd_step h rfl]
  unfold chS
  rw [if_neg hd, if_neg h32]
  dsimp only
  rw [if_pos rfl]
  rfl
theorem t_cls {t : ST} {T : Int → Int} {n p : Nat} {op : Int} {vs : List Int64} {ss : List Int} (h : RL0 t T n p op vs ss) (hp : p < 40) (hc : T p = 41) (ho : 0 < op) : ∃ ss2 v vs2, wdM 1 ss vs = (1000 :: ss2, v :: vs2) ∧ RL0 t T n (p + 1) (op - 1) ((spM ss2 v).2 :: vs2) (spM ss2 v).1 ∧ sgR ss2 ∧ ss2.length ≤ 40 ∧ vs2.length ≤ 40 := by
  obtain ⟨st, wt, dg, h1, h2, h3, h4, h5, st', wt', h6, h7, h8, rfl, rfl, h11, h12, h13⟩ := h
  have e1 := rl_rl (k := 1) (by decide) wt st
  rw [h6] at e1
  dsimp only at e1
  obtain ⟨b1, b2, b3, b4, b5, b6⟩ := wdM_rl t (k := 1) (by decide) wt' st' _ h7 h8 (by omega) rfl (by omega)
  have hev := evL_len t (rlS 1 wt' st').2
  rcases rl1_top wt' st' h7 with q | ⟨ws, q⟩
  · rw [q] at b6
    have : opS ([] : List Int) = 0 := rfl
    omega
  · rw [q] at b1 b3 b4 b5 b6
    have hws : (40 :: ws).length = ws.length + 1 := rfl
    have hnb : ¬ isB 40 := fun z => by have := (isB_iff 40).mp z; omega
    rw [bn_n hnb] at b5
    cases hv : evL t (rlS 1 wt' st').2 with
    | nil => rw [hv] at b5; have : ([] : List Int64).length = 0 := rfl
             omega
    | cons v vs2 =>
      have hvl : (v :: vs2).length = vs2.length + 1 := rfl
      rw [hv] at b1 b5 hev
      obtain ⟨v', c1, c2, c3, c4, c5, c6, c7⟩ := spM_rl t ws (rlS 1 wt' st').2 v vs2 b3.2.2 (by omega) hv
      refine ⟨ws.map mcS, v, vs2, b1, ?_, (sg_map b3.2.2).1, by rw [List.length_map]; omega, by omega⟩
      rw [c1]
      have hop : opS (40 :: ws) = opS ws + 1 := rfl
      refine ⟨(rlS 1 wt' st').2, ws, 0, ?_, b3.2.2, by omega, by omega, Or.inl rfl, _, _, rfl, c4, c3, rfl, c2.symm, ?_, by omega, c7⟩
      · rw [rd_beh h1 (by omega) (by omega), hc]
        have eb : buS (st, wt, op, 0, 0, -1) 41 = (((rlS 1 wt' st').2, ws, op - 1, 0, 0, -1), 1) := by
          unfold buS
          rw [if_pos rfl]
          unfold cbS
          dsimp only
          rw [if_neg (by omega), e1, q]
          rfl
        rw [eb]
        rfl
      · show vs2.length + 1 = _
        rw [c6]
        omega
theorem rk_rm {c : Int} (h : 1 ≤ rmS c) : rkS c = rmS c := (rm_rk (rm_B h)).symm
theorem t_op {t : ST} {T : Int → Int} {n p : Nat} {op : Int} {vs : List Int64} {ss : List Int} (h : RL0 t T n p op vs ss) (hp : p < 40) (hr : 1 ≤ rmS (T p)) {k : Int} (hk : k = if rmS (T p) = 3 then 4 else rmS (T p)) (hb : ¬ (rmS (T p) = 3 ∧ ∃ x l, (wdM k ss vs).1 = x :: l ∧ x < 1000 ∧ rmS x = 3)) : RL1 t T (p + 1) op (wdM k ss vs).2 (T p :: (wdM k ss vs).1) ∧ sgR (wdM k ss vs).1 ∧ (wdM k ss vs).1.length ≤ 40 ∧ (wdM k ss vs).2.length ≤ 40 := by
  obtain ⟨st, wt, dg, h1, h2, h3, h4, h5, st', wt', h6, h7, h8, rfl, rfl, h11, h12, h13⟩ := h
  have hB := rm_B hr
  have hBc := (isB_iff (T p)).mp hB
  have hrk := rk_rm hr
  have hrg := rmS_rg (T p)
  have hk5 : 1 ≤ k ∧ k ≤ 5 := by subst hk; split <;> omega
  have e1 := rl_rl (k := k) (by omega) wt st
  rw [h6] at e1
  dsimp only at e1
  obtain ⟨b1, b2, b3, b4, b5, b6⟩ := wdM_rl t hk5 wt' st' _ h7 h8 (by omega) rfl (by omega)
  rw [b1] at hb ⊢
  have hev := evL_len t (rlS k wt' st').2
  refine ⟨⟨(rlS k wt' st').2, T p :: (rlS k wt' st').1, ?_, ⟨Or.inl hB, fun _ => b2, b3⟩, by show _ + ((rlS k wt' st').1.length + 1) ≤ p + 1; omega, by rw [op_n (by omega), b6, h13]; exact h4, ?_, rfl, by rw [bn_B hB]; dsimp only; omega⟩, (sg_map b3).1, by dsimp only; rw [List.length_map]; omega, by dsimp only; omega⟩
  · rw [rd_beh h1 (by omega) (by omega)]
    have ek : krS (T p) = k := by rw [hk]; unfold krS; rw [hrk]
    have eb : buS (st, wt, op, 0, 0, -1) (T p) = (((rlS k wt' st').2, T p :: (rlS k wt' st').1, op, 0, 1, -1), 1) := by
      unfold buS
      dsimp only
      rw [if_neg (by omega), if_neg (by omega), ek, e1, if_neg, adL_c (by omega)]
      rintro ⟨q1, q2⟩
      refine hb ⟨by omega, ?_⟩
      cases hl : (rlS k wt' st').1 with
      | nil => rw [hl] at q2; exact absurd q2 (by decide)
      | cons x l =>
        rw [hl] at q2 b3
        have hx : isB x := by
          have : rkS x = 3 := q2
          exact ⟨by omega, by omega⟩
        have hxc := (isB_iff x).mp hx
        refine ⟨x, l.map mcS, by show mcS x :: l.map mcS = _; rw [mcS_B hx], by omega, by rw [rm_rk hx]; exact q2⟩
    rw [eb]
    rfl
  · show T p :: (rlS k wt' st').1.map mcS = mcS (T p) :: (rlS k wt' st').1.map mcS
    rw [mcS_B hB]
theorem t_opb {t : ST} {T : Int → Int} {n p : Nat} {op : Int} {vs : List Int64} {ss : List Int} (h : RL0 t T n p op vs ss) (hn : p < n) (hp : p < 40) (hr : rmS (T p) = 3) {x : Int} {l : List Int} (hx : (wdM 4 ss vs).1 = x :: l) (hx1 : x < 1000) (hx3 : rmS x = 3) : (fnS T n).2.2.2.2.2 = 10 * (p : Int) + 1 := by
  obtain ⟨st, wt, dg, h1, h2, h3, h4, h5, st', wt', h6, h7, h8, rfl, rfl, h11, h12, h13⟩ := h
  have hB := rm_B (x := T p) (by omega)
  have hBc := (isB_iff (T p)).mp hB
  have hrk := rk_rm (c := T p) (by omega)
  have e1 := rl_rl (k := 4) (by decide) wt st
  rw [h6] at e1
  dsimp only at e1
  obtain ⟨b1, b2, b3, b4, b5, b6⟩ := wdM_rl t (k := 4) (by decide) wt' st' _ h7 h8 (by omega) rfl (by omega)
  rw [b1] at hx
  dsimp only at hx
  refine ofl (m := p + 1) ?_ (by omega) (by omega)
  rw [rd_beh h1 (by omega) (by omega)]
  have ek : krS (T p) = 4 := by unfold krS; rw [hrk, if_pos hr]
  cases hl : (rlS 4 wt' st').1 with
  | nil => rw [hl] at hx; cases hx
  | cons y l2 =>
    rw [hl] at hx b3
    have hxy : mcS y = x := by injection hx
    have hy : isB y := by
      rcases b3.1 with z | z | z | z
      · exact z
      · subst z; rw [← hxy] at hx1; exact absurd hx1 (by decide)
      · subst z; rw [← hxy] at hx1; exact absurd hx1 (by decide)
      · subst z; rw [← hxy] at hx1; exact absurd hx1 (by decide)
    rw [mcS_B hy] at hxy
    subst hxy
    have eb : buS (st, wt, op, 0, 0, -1) (T p) = (((rlS 4 wt' st').2, y :: l2, op, 0, 0, -1), 0) := by
      unfold buS
      dsimp only
      rw [if_neg (by omega), if_neg (by omega), ek, e1, hl, if_pos ⟨by omega, by show rkS y = 3; rw [← rm_rk hy]; exact hx3⟩]
    rw [eb]
    rfl
theorem rl1_all : ∀ (wt st : List Int), okW wt → opS wt = 0 → (rlS 1 wt st).1 = []
  | [], st, _, _ => rfl
  | w :: ws, st, h, ho => by
    have hw : ¬ w = 40 := fun q => by
      subst q
      have : opS (40 :: ws) = opS ws + 1 := rfl
      omega
    rw [op_n hw] at ho
    have h1 : 1 ≤ rkS w := by
      rcases h.1 with q | q | q | q
      · exact q.1
      · subst q; decide
      · subst q; decide
      · exact absurd q hw
    have e2 : rlS 1 (w :: ws) st = rlS 1 ws (adL (-w) st) := if_pos h1
    rw [e2]
    exact rl1_all ws _ h.2.2 ho
theorem t_end0 {t : ST} {T : Int → Int} {n : Nat} {vs : List Int64} {ss : List Int} (h : RL0 t T n n 0 vs ss) (hn : n ≤ 40) : ∃ v, wdM 1 ss vs = ([], [v]) ∧ (fnS T n).2.2.2.2.2 = -1 ∧ popV (evL t (fnS T n).1) = v := by
  obtain ⟨st, wt, dg, h1, h2, h3, h4, h5, st', wt', h6, h7, h8, rfl, rfl, h11, h12, h13⟩ := h
  have e1 := rl_rl (k := 1) (by decide) wt st
  rw [h6] at e1
  dsimp only at e1
  obtain ⟨b1, b2, b3, b4, b5, b6⟩ := wdM_rl t (k := 1) (by decide) wt' st' _ h7 h8 (by omega) rfl (by omega)
  have hall := rl1_all wt' st' h7 (by omega)
  rw [hall] at b1 b5
  have hb0 : bnS ([] : List Int) = 0 := rfl
  have hf : (fnS T n).1 = (rlS 1 wt' st').2 := by
    unfold fnS
    dsimp only
    rw [h1, ← e1]
  match hv : evL t (rlS 1 wt' st').2, b5 with
  | [], b5 => exact absurd b5 (by show ¬ 0 + bnS wt' = _; omega)
  | a :: b :: l, b5 => exact absurd b5 (by show ¬ (l.length + 1 + 1) + bnS wt' = _; omega)
  | [v], b5 =>
    refine ⟨v, by rw [b1, hv]; rfl, ?_, by rw [hf, hv]; rfl⟩
    unfold fnS
    dsimp only
    rw [h1, if_neg]
    rintro ⟨_, q | q⟩
    · exact absurd (show (0 : Int) = 1 from q) (by decide)
    · exact absurd (show (0 : Int) < 0 from q) (by decide)
theorem t_bad0 {t : ST} {T : Int → Int} {n p : Nat} {op : Int} {vs : List Int64} {ss : List Int} (h : RL0 t T n p op vs ss) (hp : p < n) (h32 : ¬ T p = 32) (h41 : ¬ (T p = 41 ∧ 0 < op)) (hr : rmS (T p) ≤ 0) : (fnS T n).2.2.2.2.2 = 10 * (p : Int) + 1 := by
  obtain ⟨st, wt, dg, h1, h2, h3, h4, h5, h6⟩ := h
  refine ofl (m := p + 1) ?_ (by omega) (by omega)
  by_cases hd : 48 ≤ T p ∧ T p ≤ 57
  · have hdg : dg = 0 := by
      rcases h5 with q | q | q
      · exact q
      · omega
      · exact absurd hd q
    subst hdg
    rw [rd_step h1 rfl]
    unfold chS
    rw [if_pos hd]
    unfold dgS
    dsimp only
    rw [if_neg (by decide), if_neg (by omega), if_pos rfl]
  · rw [rd_beh h1 h32 hd]
    have eb : buS (st, wt, op, 0, 0, -1) (T p) = ((st, wt, op, 0, 0, -1), 0) := by
      unfold buS
      by_cases h4' : T p = 41
      · rw [if_pos h4']
        unfold cbS
        dsimp only
        rw [if_pos (by omega)]
      · have hnB : ¬ isB (T p) := fun z => by have := z.1; rw [← rm_rk z] at this; omega
        have hrk := rkS_rg (T p)
        unfold isB at hnB
        rw [if_neg h4', if_pos (by omega)]
    rw [eb]
    rfl
theorem t_end0b {t : ST} {T : Int → Int} {n : Nat} {op : Int} {vs : List Int64} {ss : List Int} (h : RL0 t T n n op vs ss) (ho : ¬ op = 0) : (fnS T n).2.2.2.2.2 = 10 * (n : Int) + 1 := by
  obtain ⟨st, wt, dg, h1, h2, h3, h4, h5, h6⟩ := h
  unfold fnS
  dsimp only
  rw [h1, if_pos ⟨rfl, Or.inr (by dsimp only; omega)⟩]
