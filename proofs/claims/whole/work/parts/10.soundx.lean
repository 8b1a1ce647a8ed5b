section SoundX
variable {l : Launch} {G : GB} {D : va_G} {tyc : Nat → ClassId} {X : AX}
/-- the machine follows the interpreter, to the method's return -/
def RunW (l : Launch) (G : GB) (D : va_G) (tyc : Nat → ClassId) (X : AX) (n : Nat) : Prop := ∀ {p : Program} {e : Env} {R : Room} {s : State} {m : MethodId} {args : Array Value} {below : List Frame} {meth : Method} {c : Code} {Q : State → Prop} {mr : MRec} {d pc : Nat} {L : AL} {S : List AV} {M : AM} {cn sn : Nat} {v : Option AV} {M' : AM} {H : Heap} {locs : List Loc} {ls : Array Slot},
  run X n d mr pc L S M cn sn = some (v, M') → Cx p R s m args meth c mr G D tyc X d → s.heap.size + cn = G.1 + M.length → HW G D tyc M H → va_S (AB G) s.heap H locs → lh G ls mr.2.2.1 L →
  (∀ (H' : Heap) (locs' : List Loc) (ls' : Array Slot) (pc' : Nat) (S' : List AV) (ins : Instr) (len sn' : Nat), decode mr.2.1 pc' = .ok (ins, len) → lenOK ins len = true → rtn mr ins S' = some v → sn' ≤ mr.2.2.2.2.2.1 → HW G D tyc M' H' → va_S (AB G) s.heap H' locs' → W p l e R s m args below meth c H' locs' mr.2.2.2.2.1 sn' Q (F0 m pc' ls' (S'.map (cV G)))) →
  W p l e R s m args below meth c H locs cn sn Q (F0 m pc ls (S.map (cV G)))
theorem argL_args : ∀ (As : List AV) (n i : Nat) (G : GB) (v : AV) (k : Nat), (As.flatMap (fun v => if cat v = 2 then [some v, none] else [some v]) ++ List.replicate n none)[i]? = some (some v) → (k + i, cV G v) ∈ lv_args k (As.map (cV G)) := by
  intro As
  induction As with
  | nil =>
    intro n i G v k h
    simp only [List.flatMap_nil, List.nil_append] at h
    have := List.eq_of_mem_replicate (List.mem_of_getElem? h)
    cases this
  | cons a As ih =>
    intro n i G v k h
    simp only [List.map_cons, lv_args, cV_cat]
    simp only [List.flatMap_cons, List.append_assoc] at h
    by_cases hc : cat a = 2
    · rw [if_pos hc] at h
      rw [if_pos hc]
      match i, h with
      | 0, h => simp at h; subst h; exact List.mem_cons_self
      | 1, h => simp at h
      | i + 2, h =>
        refine List.mem_cons_of_mem _ ?_
        have := ih n i G v (k + 2) (by simpa using h)
        rw [show k + (i + 2) = k + 2 + i by omega]
        exact this
    · rw [if_neg hc] at h
      rw [if_neg hc]
      match i, h with
      | 0, h => simp at h; subst h; exact List.mem_cons_self
      | i + 1, h =>
        refine List.mem_cons_of_mem _ ?_
        have := ih n i G v (k + 1) (by simpa using h)
        rw [show k + (i + 1) = k + 1 + i by omega]
        exact this
theorem sl_len (G : GB) (As : List AV) : (lg_sl (As.map (cV G))).length = (As.flatMap (fun v => if cat v = 2 then [some v, none] else [some v]) : AL).length := by
  induction As with
  | nil => rfl
  | cons a As ih =>
    simp only [lg_sl, List.map_cons, List.flatMap_cons, List.length_append, cV_cat] at ih ⊢
    rw [ih]
    by_cases hc : cat a = 2
    · rw [if_pos hc, if_pos hc]; rfl
    · rw [if_neg hc, if_neg hc]; rfl
theorem lh_entry {As : List AV} {n : Nat} (h : (argL As n).length = n) : lh G ((lg_sl (As.map (cV G)) ++ List.replicate (n - (lg_sl (As.map (cV G))).length) Slot.unset).toArray) n (argL As n) := by
  have hle : (lg_sl (As.map (cV G))).length ≤ n := by
    rw [sl_len]
    simp only [argL, List.length_append, List.length_replicate] at h
    omega
  have he := lv_entry (As.map (cV G)) hle
  refine ⟨he.1, he.2.1, fun i v hv => ?_⟩
  have := argL_args As _ i G v 0 hv
  rw [Nat.zero_add] at this
  exact he.2.2 _ this
set_option maxHeartbeats 4000000 in
theorem run_Met {n d : Nat} {mr : MRec} {As : List AV} {M M' : AM} {v : Option AV} (ih : RunW l G D tyc X n) (ok : mrOK mr) (hlen : (argL As mr.2.2.1).length = mr.2.2.1) (h : run X n d mr 0 (argL As mr.2.2.1) [] M 0 0 = some (v, M')) : MetOf l G D tyc X d mr As M v M' := by
  obtain ⟨hcls, hpl, h22, hcode⟩ := ok
  refine Met.ofW (cc := mr.2.1) (maxL := mr.2.2.1) (ret := mr.2.2.2.1) hpl rfl ?_
  intro p e s m args below meth c s₁ B hml hv
  obtain ⟨rfl, hH, hSt⟩ := hv
  have hts0 := atoms_spec (ws := Cond.code mr.1 mr.2.1 mr.2.2.1 mr.2.2.2.1 :: gtbl) B.pre
  have hown : s.vm.findClass (own mr.2.2.2.2.2.2) = some m.cls := by rw [← hcls]; exact findClass_of_methodNamed B.named
  have hlocks := B.notSynchronized
  have hr := B.returns
  have hx := B.exec
  have hb := B.bytes
  rw [lg_entry_eq]
  refine ih (S := []) h ⟨hx, hb, hml, hown, fun w hw => hts0 w (List.mem_cons_of_mem _ hw), hSt, fun h9 => (name_of_methodNamed B.named B.method).1.trans h9, Nat.le_refl _, Nat.le_refl _, Nat.le_refl _, Nat.le_refl _⟩ (by rw [Nat.add_zero]; exact hH.1) hH va_S.rf (lh_entry hlen) ?_
  intro H' locs' ls' pc' S' ins len sn' hd hl2 hrt hsn hH' hS'
  refine W.widen (Nat.le_refl _) hsn ?_
  have fin : ∀ t : State, t.heap = H' → s.WarmedH t.vm → ((Outcome.returned (v.map (cV G)) : Outcome) = .returned (v.map (cV G)) ∧ HW G D tyc M' t.heap ∧ va_F (AB G) s t) := fun t ht _ => ⟨rfl, by rw [ht]; exact hH', hS'.F ht⟩
  unfold rtn at hrt
  split at hrt
  · next e1 =>
    simp only [lenOK, beq_iff_eq] at hl2; subst hl2
    split at hrt
    · next z => cases hrt; rw [e1] at hr; exact W.iret hx hb hr (fun t ht hW => fin t ht hW) hS'.2.2 hd
    · cases hrt
  · next e1 =>
    simp only [lenOK, beq_iff_eq] at hl2; subst hl2
    split at hrt
    · next z =>
      split at hrt
      · next hz =>
        cases hrt; rw [e1] at hr
        exact W.zret hx hb hr (by rcases hz with rfl | rfl <;> decide +kernel) (fun t ht hW => fin t ht hW) hS'.2.2 hd
      · cases hrt
    · cases hrt
  · next e1 =>
    simp only [lenOK, beq_iff_eq] at hl2; subst hl2
    split at hrt
    · next z => cases hrt; rw [e1] at hr; exact W.lret hx hb hr (fun t ht hW => fin t ht hW) hS'.2.2 hd
    · cases hrt
  · next e1 =>
    simp only [lenOK, beq_iff_eq] at hl2; subst hl2
    split at hrt
    · cases hrt; rw [e1] at hr; exact W.vret hx hb hr (fun t ht hW => fin t ht hW) hS'.2.2 hd
    · cases hrt
  · cases hrt
theorem cal_ok {mr mr' : MRec} {ins : Instr} {S As r : List AV} {M : AM} (h : cal mr ins S M = some (mr', As, r)) : mrOK mr' := by
  unfold cal at h
  repeat' split at h
  all_goals first
    | (cases h; done)
    | (cases h; exact (ml_ok (mr' := mr') (by assumption)).2.2.1)
set_option maxHeartbeats 4000000 in
theorem run_W : ∀ n, RunW l G D tyc X n := by
  intro n
  induction n with
  | zero => intro p e R s m args below meth c Q mr d pc L S M cn sn v M' H locs ls h; cases h
  | succ n ih =>
    intro p e R s m args below meth c Q mr d pc L S M cn sn v M' H locs ls h C hz hH hS hl K
    unfold run at h
    split at h
    · next ins len hd =>
      split at h
      · next hlen =>
        split at h
        · next v1 hrt =>
          split at h
          · next hc =>
            cases h
            rw [hc.1]
            exact K H locs ls pc S ins len sn hd hlen hrt hc.2 hH hS
          · cases h
        · split at h
          · next pc' L' S' M1 c' s' hst =>
            refine stp_sound C hd hlen hz hst hH hS hl (fun H1 locs1 ls1 hH1 hS1 hl1 => ?_)
            exact ih h C (by have := stp_len hst; omega) hH1 hS1 hl1 K
          · split at h
            · next mr' As r hcal =>
              split at h
              · cases h
              · next dd =>
                split at h
                · next hc =>
                  split at h
                  · next v1 M1 hr1 =>
                    refine so_call C hd hlen hcal (run_Met ih (cal_ok hcal) hc.1 hr1) hc.2.1 hc.2.2 hH hS hl (fun H1 locs1 ls1 hH1 hS1 hl1 => ?_)
                    exact ih h C (by have := run_len n hr1; omega) hH1 hS1 hl1 K
                  · cases h
                · cases h
            · cases h
      · cases h
    · cases h
end SoundX
