section SoundM
variable {p : Program} {l : Launch} {e : Env} {R : Room} {s : State} {m : MethodId} {args : Array Value} {below : List Frame} {meth : Method} {c : Code} {H : Heap} {locs : List Loc} {Q : State → Prop}
variable {mr : MRec} {G : GB} {D : va_G} {tyc : Nat → ClassId} {X : AX} {d : Nat} {pc pc' : Nat} {L L' : AL} {S S' : List AV} {M M' : AM} {cn sn cn' sn' : Nat} {ls : Array Slot}
theorem cat_sum (G : GB) (r : List AV) : ((r.map (cV G)).map fun v => v.category).sum = (r.map cat).sum := by
  rw [List.map_map]
  congr 1
  apply List.map_congr_left
  intro v _
  exact cV_cat G v
theorem ty_i {t n : Nat} {f : Int → Int} {q : Nat} (h : M[q]? = some (.inl (t, n, .inl f))) : (cW G tyc M)[q]? = some (G.1 + q, .inl (tyc t, n, .inl (fun j : Nat => Int32.ofInt (f j)))) := cW_get h
theorem ty_l {t n : Nat} {f : Int → Int64} {q : Nat} (h : M[q]? = some (.inl (t, n, .inr (.inl f)))) : (cW G tyc M)[q]? = some (G.1 + q, .inl (tyc t, n, .inr (.inl (fun j : Nat => f j)))) := cW_get h
theorem ty_q {t n : Nat} {f : Int → Option Nat} {q : Nat} (h : M[q]? = some (.inl (t, n, .inr (.inr f)))) : (cW G tyc M)[q]? = some (G.1 + q, .inl (tyc t, n, .inr (.inr (.inr (.inr (fun j : Nat => (f j).map (fun k => G.1 + k))))))) := cW_get h
theorem ty_o {ci : Nat} {fs : List AV} {q : Nat} (h : M[q]? = some (.inr (ci, fs))) : (cW G tyc M)[q]? = some (G.1 + q, .inr (ci, fs.map (cV G))) := cW_get h
theorem hw_set {q : Nat} {ee : AE} {H1 : Heap} (hz : H1.size = G.1 + M.length) (h : va_P D clsT ((cW G tyc M).set q (G.1 + q, cE G tyc ee)) H1) : HW G D tyc (M.set q ee) H1 := by
  rw [cW_set] at h
  exact ⟨by rw [List.length_set]; exact hz, h⟩
/-- behind a write the heap is as large as before: nothing of the rest is needed -/
theorem up_i {f : Int → Int} {i x : Int} (h : (((Int32.ofInt i).toNatClampNeg : Nat) : Int) = i) : (upd (fun j : Nat => Int32.ofInt (f j)) (Int32.ofInt i).toNatClampNeg (Int32.ofInt x)) = (fun j : Nat => Int32.ofInt (updA f i x j)) := by
  funext j
  unfold upd updA
  by_cases hj : j = (Int32.ofInt i).toNatClampNeg
  · rw [if_pos hj, if_pos (by rw [hj]; exact h)]
  · rw [if_neg hj, if_neg (by rw [← h]; exact fun q => hj (Int.ofNat.inj q))]
theorem up_l {f : Int → Int64} {i : Int} {x : Int64} (h : (((Int32.ofInt i).toNatClampNeg : Nat) : Int) = i) : (vp_updL (fun j : Nat => f j) (Int32.ofInt i).toNatClampNeg x) = (fun j : Nat => updA f i x j) := by
  funext j
  unfold vp_updL updA
  by_cases hj : j = (Int32.ofInt i).toNatClampNeg
  · rw [if_pos hj, if_pos (by rw [hj]; exact h)]
  · rw [if_neg hj, if_neg (by rw [← h]; exact fun q => hj (Int.ofNat.inj q))]
theorem up_q {f : Int → Option Nat} {i : Int} {v : Nat} (h : (((Int32.ofInt i).toNatClampNeg : Nat) : Int) = i) : (va_up (fun j : Nat => (f j).map (fun k => G.1 + k)) (Int32.ofInt i).toNatClampNeg (some (G.1 + v))) = (fun j : Nat => (updA f i (some v) j).map (fun k => G.1 + k)) := by
  funext j
  unfold va_up updA
  by_cases hj : j = (Int32.ofInt i).toNatClampNeg
  · rw [if_pos hj, if_pos (by rw [hj]; exact h)]; rfl
  · rw [if_neg hj, if_neg (by rw [← h]; exact fun q => hj (Int.ofNat.inj q))]
set_option maxHeartbeats 4000000 in
theorem so_read (C : Cx p R s m args meth c mr G D tyc X d) {ins : Instr} {len : Nat} (hd : decode mr.2.1 pc = .ok (ins, len)) (hlen : lenOK ins len = true)
    (hi : (∃ k, ins = .getfield k) ∨ (∃ k, ins = .getstatic k) ∨ ins = .iaload ∨ ins = .laload ∨ ins = .baload ∨ ins = .aaload ∨ ins = .arraylength)
    (h : stp X mr d ins pc L S M cn sn = some (pc', L', S', M', cn', sn')) (hH : HW G D tyc M H) (hS : va_S (AB G) s.heap H locs) (hl : lh G ls mr.2.2.1 L)
    (K : KK p l e R s m args below meth c Q mr G D tyc pc' L' S' M' cn' sn') : W p l e R s m args below meth c H locs cn sn Q (F0 m pc ls (S.map (cV G))) := by
  obtain ⟨hx, hb, -, hown, hts, ⟨hK, hnest, hao1, hao2, hZ, hT, hX, hsb, hbs, hXl⟩, -⟩ := C
  rcases hi with ⟨k, rfl⟩ | ⟨k, rfl⟩ | rfl | rfl | rfl | rfl | rfl
  all_goals (simp only [lenOK, beq_iff_eq] at hlen; subst hlen)
  all_goals simp only [stp] at h
  · split at h
    · next q r =>
      split at h
      · next ci j hf =>
        split at h
        · next ci' fs hM =>
          split at h
          · next hci =>
            subst hci
            simp only [Option.map_eq_some_iff] at h
            obtain ⟨v, hv, h⟩ := h
            simp only [Prod.mk.injEq] at h
            obtain ⟨rfl, rfl, rfl, rfl, rfl, rfl⟩ := h
            obtain ⟨CC, T, N, hc, hj, hlk, -⟩ := fld_ok hf
            exact va_get (D := D) (ci := ci') (v := cV G v) (C := CC) (T := T) (N := N) hx hb hts (u_in hc).1 hown hK hH.2 q (ty_o hM) hc j hj (hts _ hlk) (fun _ h9 => h9) (by rw [List.getElem?_map, hv]; rfl) hd (K H locs ls hH hS hl)
          · cases h
        · cases h
      · cases h
    · cases h
  · split at h
    · next hk =>
      simp only [Option.some.injEq, Prod.mk.injEq] at h; obtain ⟨rfl, rfl, rfl, rfl, rfl, rfl⟩ := h
      obtain ⟨h9, rfl⟩ := hk
      rw [h9] at hown
      exact va_getsN hx hb hZ hS hown (va_Nw.use rfl (hnest (.fieldLinkNest (own 9) 41 "GiftMatch" "ROOTS" "[I" "GiftMatch") (by decide +kernel))) (fun _ h9 => h9) hd (K H locs ls hH hS hl)
    · cases h
  · split at h
    · next i q r =>
      split at h
      · next n f hM =>
        split at h
        · next hin =>
          simp only [Option.some.injEq, Prod.mk.injEq] at h; obtain ⟨rfl, rfl, rfl, rfl, rfl, rfl⟩ := h
          refine va_iald hx hb hK hH.2 q 0 (ty_i hM) rfl (inA_ok hin).1 hd ?_
          have := K H locs ls hH hS hl
          simp only [(inA_ok hin).2]
          exact this
        · cases h
      · cases h
    · next i r =>
      split at h
      · next hin =>
        simp only [Option.some.injEq, Prod.mk.injEq] at h; obtain ⟨rfl, rfl, rfl, rfl, rfl, rfl⟩ := h
        exact va_ti (v := .int (Int32.ofInt (rootZ i))) hx hb hT hS (inA_ok hin).1 (by simp only [(inA_ok hin).2]) hd (K H locs ls hH hS hl)
      · cases h
    · next i r =>
      split at h
      · next hin =>
        simp only [Option.some.injEq, Prod.mk.injEq] at h; obtain ⟨rfl, rfl, rfl, rfl, rfl, rfl⟩ := h
        refine va_sld hx hb hX (Nat.lt_of_lt_of_le hsb hbs) (Nat.not_le.mpr hsb) hS (inA_ok hin).1 hd ?_
        have := K H locs ls hH hS hl
        simp only [List.map_cons, cV, ofI_to] at this
        have e2 : (Int32.ofInt i).toNatClampNeg = i.toNat := by have := (inA_ok hin).2; omega
        rw [e2]
        exact this
      · cases h
    · cases h
  · split at h
    · next i q r =>
      split at h
      · next n f hM =>
        split at h
        · next hin =>
          simp only [Option.some.injEq, Prod.mk.injEq] at h; obtain ⟨rfl, rfl, rfl, rfl, rfl, rfl⟩ := h
          refine va_lald hx hb hK hH.2 q 1 (ty_l hM) rfl (inA_ok hin).1 hd ?_
          have := K H locs ls hH hS hl
          simp only [(inA_ok hin).2]
          exact this
        · cases h
      · cases h
    · cases h
  · split at h
    · next i q r =>
      split at h
      · next n f hM =>
        split at h
        · next hin =>
          simp only [Option.some.injEq, Prod.mk.injEq] at h; obtain ⟨rfl, rfl, rfl, rfl, rfl, rfl⟩ := h
          refine va_zald hx hb hK hH.2 q 2 (ty_i hM) rfl (inA_ok hin).1 hd ?_
          have := K H locs ls hH hS hl
          simp only [(inA_ok hin).2]
          exact this
        · cases h
      · cases h
    · cases h
  · split at h
    · next i q r =>
      split at h
      · next t n f hM =>
        split at h
        · next hin =>
          simp only [Option.map_eq_some_iff] at h
          obtain ⟨v, hv, h⟩ := h
          simp only [Prod.mk.injEq] at h
          obtain ⟨rfl, rfl, rfl, rfl, rfl, rfl⟩ := h
          have := K H locs ls hH hS hl
          rcases hin.2 with rfl | rfl
          · refine va_aldq hx hb hK hH.2 q 3 (ty_q hM) rfl (inA_ok hin.1).1 hd ?_
            simp only [(inA_ok hin.1).2, hv]
            exact this
          · refine va_aldq hx hb hK hH.2 q 4 (ty_q hM) rfl (inA_ok hin.1).1 hd ?_
            simp only [(inA_ok hin.1).2, hv]
            exact this
        · cases h
      · cases h
    · cases h
  · split at h
    · next r =>
      simp only [Option.some.injEq, Prod.mk.injEq] at h; obtain ⟨rfl, rfl, rfl, rfl, rfl, rfl⟩ := h
      refine va_slen hx hb hX (Nat.lt_of_lt_of_le hsb hbs) (Nat.not_le.mpr hsb) hS hd ?_
      have := K H locs ls hH hS hl
      simp only [List.map_cons, cV, ofI_to] at this
      exact this
    · cases h
end SoundM
