section Sound
variable {p : Program} {l : Launch} {e : Env} {R : Room} {s : State} {m : MethodId} {args : Array Value} {below : List Frame} {meth : Method} {c : Code} {H : Heap} {locs : List Loc} {Q : State → Prop}
variable {mr : MRec} {G : GB} {D : va_G} {tyc : Nat → ClassId} {X : AX} {d : Nat} {pc pc' : Nat} {L L' : AL} {S S' : List AV} {M M' : AM} {cn sn cn' sn' : Nat} {ls : Array Slot}
theorem ofI_ofI8 (n : Int) : (Int8.ofInt n).toInt32 = Int32.ofInt (Int8.ofInt n).toInt := by
  apply Int32.toInt_inj.mp
  have h1 := Int8.minValue_le_toInt (Int8.ofInt n)
  have h2 := Int8.toInt_le (Int8.ofInt n)
  have e1 : Int8.minValue.toInt = -128 := rfl
  have e2 : Int8.maxValue.toInt = 127 := rfl
  rw [Int8.toInt_toInt32, Int32.toInt_ofInt_of_le (by omega) (by omega)]
theorem ofI_ofI16 (n : Int) : (Int16.ofInt n).toInt32 = Int32.ofInt (Int16.ofInt n).toInt := by
  apply Int32.toInt_inj.mp
  have h1 := Int16.minValue_le_toInt (Int16.ofInt n)
  have h2 := Int16.toInt_le (Int16.ofInt n)
  have e1 : Int16.minValue.toInt = -32768 := rfl
  have e2 : Int16.maxValue.toInt = 32767 := rfl
  rw [Int16.toInt_toInt32, Int32.toInt_ofInt_of_le (by omega) (by omega)]
theorem ofI_to (x : Int32) : Int32.ofInt x.toInt = x := Int32.ofInt_toInt x
theorem inA_ok {i : Int} {n : Nat} (h : inA i n = true) : vp_in (Int32.ofInt i) n ∧ (((Int32.ofInt i).toNatClampNeg : Nat) : Int) = i := by
  simp only [inA, decide_eq_true_eq] at h
  have e1 : (Int32.ofInt i).toInt = i := Int32.toInt_ofInt_of_le (by omega) (by omega)
  refine ⟨vp_in_iff.mpr (by rw [e1]; omega), ?_⟩
  rw [Int32.toNatClampNeg, e1]
  omega
theorem okv_ok {ty : FieldType} {v : AV} (h : okv ty v = true) : narrow ty (cV G v) = cV G v ∧ fits ty (cV G v) = true := by
  unfold okv at h
  split at h
  · exact ⟨rfl, rfl⟩
  · next z =>
    simp only [Bool.or_eq_true, beq_iff_eq] at h
    rcases h with rfl | rfl
    · exact ⟨show narrow .boolean (.int 0) = .int 0 by decide +kernel, show fits .boolean (.int 0) = true by decide +kernel⟩
    · exact ⟨show narrow .boolean (.int 1) = .int 1 by decide +kernel, show fits .boolean (.int 1) = true by decide +kernel⟩
  · exact ⟨rfl, rfl⟩
  · exact ⟨rfl, rfl⟩
  · exact ⟨rfl, rfl⟩
  · cases h
theorem jmp_ok {off : Int} {t : Nat} (h : jmp pc off = some t) : (pc : Int) + off = (t : Int) := by
  unfold jmp at h
  split at h
  · cases h; omega
  · cases h
/-- what the interpreter goes on with -/
def KK (p : Program) (l : Launch) (e : Env) (R : Room) (s : State) (m : MethodId) (args : Array Value) (below : List Frame) (meth : Method) (c : Code) (Q : State → Prop) (mr : MRec) (G : GB) (D : va_G) (tyc : Nat → ClassId) (pc : Nat) (L : AL) (S : List AV) (M : AM) (cn sn : Nat) : Prop :=
  ∀ (H : Heap) (locs : List Loc) (ls : Array Slot), HW G D tyc M H → va_S (AB G) s.heap H locs → lh G ls mr.2.2.1 L → W p l e R s m args below meth c H locs cn sn Q (F0 m pc ls (S.map (cV G)))
set_option maxHeartbeats 4000000 in
theorem so_load (C : Cx p R s m args meth c mr G D tyc X d) {ins : Instr} {len : Nat} (hd : decode mr.2.1 pc = .ok (ins, len)) (hlen : lenOK ins len = true)
    (hi : (∃ k, ins = .iload_n k) ∨ (∃ k, ins = .iload k) ∨ (∃ k, ins = .lload_n k) ∨ (∃ k, ins = .lload k) ∨ (∃ k, ins = .aload_n k) ∨ (∃ k, ins = .aload k))
    (h : stp X mr d ins pc L S M cn sn = some (pc', L', S', M', cn', sn')) (hH : HW G D tyc M H) (hS : va_S (AB G) s.heap H locs) (hl : lh G ls mr.2.2.1 L)
    (K : KK p l e R s m args below meth c Q mr G D tyc pc' L' S' M' cn' sn') : W p l e R s m args below meth c H locs cn sn Q (F0 m pc ls (S.map (cV G))) := by
  obtain ⟨hx, hb, -⟩ := C
  rcases hi with ⟨k, rfl⟩ | ⟨k, rfl⟩ | ⟨k, rfl⟩ | ⟨k, rfl⟩ | ⟨k, rfl⟩ | ⟨k, rfl⟩
  all_goals (simp only [lenOK, beq_iff_eq] at hlen; subst hlen)
  all_goals simp only [stp, Option.map_eq_some_iff] at h
  all_goals obtain ⟨v, hv, h⟩ := h
  all_goals simp only [Prod.mk.injEq] at h
  all_goals obtain ⟨rfl, rfl, rfl, rfl, rfl, rfl⟩ := h
  · unfold ldI at hv; split at hv
    · next z hz => cases hv; exact lv_iload_n hx hb hd rfl (hl.2.2 _ _ hz) (K H locs ls hH hS hl)
    · cases hv
  · unfold ldI at hv; split at hv
    · next z hz => cases hv; exact lv_iload hx hb hd (hl.2.2 _ _ hz) (K H locs ls hH hS hl)
    · cases hv
  · unfold ldJ at hv; split at hv
    · next z hz => cases hv; exact lv_lload_n hx hb hd rfl (hl.2.2 _ _ hz) (K H locs ls hH hS hl)
    · cases hv
  · unfold ldJ at hv; split at hv
    · next z hz => cases hv; exact lv_lload hx hb hd (hl.2.2 _ _ hz) (K H locs ls hH hS hl)
    · cases hv
  · unfold ldR at hv; split at hv
    · next z hz => cases hv; exact lv_aload_n hx hb hd rfl (hl.2.2 _ _ hz) (K H locs ls hH hS hl)
    · next z hz =>
      cases hv
      cases z with
      | zero => exact lv_aload_n hx hb hd rfl (hl.2.2 _ _ hz) (K H locs ls hH hS hl)
      | succ z => exact lv_aload_n hx hb hd rfl (hl.2.2 _ _ hz) (K H locs ls hH hS hl)
    · cases hv
  · unfold ldR at hv; split at hv
    · next z hz => cases hv; exact lv_aload hx hb hd (hl.2.2 _ _ hz) (K H locs ls hH hS hl)
    · next z hz =>
      cases hv
      cases z with
      | zero => exact lv_aload hx hb hd (hl.2.2 _ _ hz) (K H locs ls hH hS hl)
      | succ z => exact lv_aload hx hb hd (hl.2.2 _ _ hz) (K H locs ls hH hS hl)
    · cases hv
set_option maxHeartbeats 4000000 in
theorem so_store (C : Cx p R s m args meth c mr G D tyc X d) {ins : Instr} {len : Nat} (hd : decode mr.2.1 pc = .ok (ins, len)) (hlen : lenOK ins len = true)
    (hi : (∃ k, ins = .istore_n k) ∨ (∃ k, ins = .istore k) ∨ (∃ k, ins = .lstore_n k) ∨ (∃ k, ins = .lstore k) ∨ (∃ k, ins = .astore_n k) ∨ (∃ k, ins = .astore k) ∨ (∃ k n, ins = .iinc k n))
    (h : stp X mr d ins pc L S M cn sn = some (pc', L', S', M', cn', sn')) (hH : HW G D tyc M H) (hS : va_S (AB G) s.heap H locs) (hl : lh G ls mr.2.2.1 L)
    (K : KK p l e R s m args below meth c Q mr G D tyc pc' L' S' M' cn' sn') : W p l e R s m args below meth c H locs cn sn Q (F0 m pc ls (S.map (cV G))) := by
  obtain ⟨hx, hb, -⟩ := C
  rcases hi with ⟨k, rfl⟩ | ⟨k, rfl⟩ | ⟨k, rfl⟩ | ⟨k, rfl⟩ | ⟨k, rfl⟩ | ⟨k, rfl⟩ | ⟨k, n, rfl⟩
  all_goals (simp only [lenOK, beq_iff_eq] at hlen; subst hlen)
  all_goals simp only [stp] at h
  all_goals split at h
  all_goals try (cases h; done)
  all_goals split at h
  all_goals try (cases h; done)
  all_goals simp only [Option.some.injEq, Prod.mk.injEq] at h
  all_goals obtain ⟨rfl, rfl, rfl, rfl, rfl, rfl⟩ := h
  · next hk => exact lv_istore_n hx hb hd rfl (lh_has hl) hk rfl (fun ls' hl' => K H locs ls' hH hS (has_lh1 hl'))
  · next hk => exact lv_istore hx hb hd (lh_has hl) hk rfl (fun ls' hl' => K H locs ls' hH hS (has_lh1 hl'))
  · next hk => exact lv_lstore_n hx hb hd rfl (lh_has hl) hk rfl (fun ls' hl' => K H locs ls' hH hS (has_lh2 hl'))
  · next hk => exact lv_lstore hx hb hd (lh_has hl) hk rfl (fun ls' hl' => K H locs ls' hH hS (has_lh2 hl'))
  · next hk => exact lv_astore_n hx hb hd rfl (lh_has hl) hk rfl (fun ls' hl' => K H locs ls' hH hS (has_lh1 hl'))
  · next hk => exact lv_astore hx hb hd (lh_has hl) hk rfl (fun ls' hl' => K H locs ls' hH hS (has_lh1 hl'))
  · next x hx0 hk =>
    obtain ⟨q, hq⟩ := List.getElem?_of_mem (mem_prs (G := G) (L := L) (q := (k, cV G (iv x))) |>.mpr ⟨iv x, hx0, rfl⟩)
    exact lv_iinc (v := Int32.ofInt (x + n)) hx hb hd (lh_has hl) hq (by rw [Int32.ofInt_add]) hk rfl (fun ls' hl' => K H locs ls' hH hS (has_lh1 hl'))
set_option maxHeartbeats 4000000 in
theorem so_const (C : Cx p R s m args meth c mr G D tyc X d) {ins : Instr} {len : Nat} (hd : decode mr.2.1 pc = .ok (ins, len)) (hlen : lenOK ins len = true)
    (hi : (∃ k, ins = .iconst k) ∨ (∃ k, ins = .bipush k) ∨ (∃ k, ins = .sipush k) ∨ (∃ k, ins = .lconst k) ∨ (∃ k, ins = .ldc2_w k))
    (h : stp X mr d ins pc L S M cn sn = some (pc', L', S', M', cn', sn')) (hH : HW G D tyc M H) (hS : va_S (AB G) s.heap H locs) (hl : lh G ls mr.2.2.1 L)
    (K : KK p l e R s m args below meth c Q mr G D tyc pc' L' S' M' cn' sn') : W p l e R s m args below meth c H locs cn sn Q (F0 m pc ls (S.map (cV G))) := by
  obtain ⟨hx, hb, -, hown, hts, -⟩ := C
  rcases hi with ⟨k, rfl⟩ | ⟨k, rfl⟩ | ⟨k, rfl⟩ | ⟨k, rfl⟩ | ⟨k, rfl⟩
  all_goals (simp only [lenOK, beq_iff_eq] at hlen; subst hlen)
  all_goals simp only [stp, Option.map_eq_some_iff, Option.some.injEq, Prod.mk.injEq] at h
  · obtain ⟨rfl, rfl, rfl, rfl, rfl, rfl⟩ := h
    exact lv_iconst hx hb hd rfl (K H locs ls hH hS hl)
  · obtain ⟨rfl, rfl, rfl, rfl, rfl, rfl⟩ := h
    exact lv_bipush hx hb hd (ofI_ofI8 k) (K H locs ls hH hS hl)
  · obtain ⟨rfl, rfl, rfl, rfl, rfl, rfl⟩ := h
    exact lv_sipush hx hb hd (ofI_ofI16 k) (K H locs ls hH hS hl)
  · obtain ⟨rfl, rfl, rfl, rfl, rfl, rfl⟩ := h
    exact lv_lconst hx hb hd rfl (K H locs ls hH hS hl)
  · obtain ⟨v, hv, rfl, rfl, rfl, rfl, rfl, rfl⟩ := h
    exact lv_ldc2 hx hb hown (hts _ (lcn_ok hv)) hd (K H locs ls hH hS hl)
set_option maxHeartbeats 4000000 in
theorem so_arith (C : Cx p R s m args meth c mr G D tyc X d) {ins : Instr} {len : Nat} (hd : decode mr.2.1 pc = .ok (ins, len)) (hlen : lenOK ins len = true)
    (hi : ins = .iadd ∨ ins = .isub ∨ ins = .imul ∨ ins = .idiv ∨ ins = .ineg ∨ ins = .iand ∨ ins = .ladd ∨ ins = .lsub ∨ ins = .lmul ∨ ins = .ldiv ∨ ins = .lor ∨ ins = .lneg ∨ ins = .lshl ∨ ins = .lcmp ∨ ins = .i2l ∨ ins = .l2i)
    (h : stp X mr d ins pc L S M cn sn = some (pc', L', S', M', cn', sn')) (hH : HW G D tyc M H) (hS : va_S (AB G) s.heap H locs) (hl : lh G ls mr.2.2.1 L)
    (K : KK p l e R s m args below meth c Q mr G D tyc pc' L' S' M' cn' sn') : W p l e R s m args below meth c H locs cn sn Q (F0 m pc ls (S.map (cV G))) := by
  obtain ⟨hx, hb, -, hown, hts, -⟩ := C
  rcases hi with rfl | rfl | rfl | rfl | rfl | rfl | rfl | rfl | rfl | rfl | rfl | rfl | rfl | rfl | rfl | rfl
  all_goals (simp only [lenOK, beq_iff_eq] at hlen; subst hlen)
  all_goals simp only [stp] at h
  all_goals split at h
  all_goals try (cases h; done)
  · simp only [Option.some.injEq, Prod.mk.injEq] at h; obtain ⟨rfl, rfl, rfl, rfl, rfl, rfl⟩ := h
    refine lv_iadd hx hb hd ?_
    have := K H locs ls hH hS hl
    simp only [List.map_cons, cV, Int32.ofInt_add] at this
    exact this
  · simp only [Option.some.injEq, Prod.mk.injEq] at h; obtain ⟨rfl, rfl, rfl, rfl, rfl, rfl⟩ := h
    refine lv_isub hx hb hd ?_
    have := K H locs ls hH hS hl
    simp only [List.map_cons, cV, Int32.ofInt_sub] at this
    exact this
  · simp only [Option.some.injEq, Prod.mk.injEq] at h; obtain ⟨rfl, rfl, rfl, rfl, rfl, rfl⟩ := h
    refine lv_imul hx hb hd ?_
    have := K H locs ls hH hS hl
    simp only [List.map_cons, cV, Int32.ofInt_mul] at this
    exact this
  · split at h
    · cases h
    · next hz =>
      simp only [Option.some.injEq, Prod.mk.injEq] at h; obtain ⟨rfl, rfl, rfl, rfl, rfl, rfl⟩ := h
      refine lv_idiv hx hb hd hz ?_
      have := K H locs ls hH hS hl
      simp only [List.map_cons, cV, ofI_to] at this
      exact this
  · simp only [Option.some.injEq, Prod.mk.injEq] at h; obtain ⟨rfl, rfl, rfl, rfl, rfl, rfl⟩ := h
    refine lv_ineg hx hb hd ?_
    have := K H locs ls hH hS hl
    simp only [List.map_cons, cV, Int32.ofInt_neg] at this
    exact this
  · simp only [Option.some.injEq, Prod.mk.injEq] at h; obtain ⟨rfl, rfl, rfl, rfl, rfl, rfl⟩ := h
    refine lv_iand hx hb hd ?_
    have := K H locs ls hH hS hl
    simp only [List.map_cons, cV, ofI_to] at this
    exact this
  · simp only [Option.some.injEq, Prod.mk.injEq] at h; obtain ⟨rfl, rfl, rfl, rfl, rfl, rfl⟩ := h
    exact lv_ladd hx hb hd (K H locs ls hH hS hl)
  · simp only [Option.some.injEq, Prod.mk.injEq] at h; obtain ⟨rfl, rfl, rfl, rfl, rfl, rfl⟩ := h
    exact lv_lsub hx hb hd (K H locs ls hH hS hl)
  · simp only [Option.some.injEq, Prod.mk.injEq] at h; obtain ⟨rfl, rfl, rfl, rfl, rfl, rfl⟩ := h
    exact lv_lmul hx hb hd (K H locs ls hH hS hl)
  · split at h
    · cases h
    · next hz =>
      simp only [Option.some.injEq, Prod.mk.injEq] at h; obtain ⟨rfl, rfl, rfl, rfl, rfl, rfl⟩ := h
      exact lv_ldiv hx hb hd hz (K H locs ls hH hS hl)
  · simp only [Option.some.injEq, Prod.mk.injEq] at h; obtain ⟨rfl, rfl, rfl, rfl, rfl, rfl⟩ := h
    exact lv_lor hx hb hd (K H locs ls hH hS hl)
  · simp only [Option.some.injEq, Prod.mk.injEq] at h; obtain ⟨rfl, rfl, rfl, rfl, rfl, rfl⟩ := h
    exact lv_lneg hx hb hd (K H locs ls hH hS hl)
  · simp only [Option.some.injEq, Prod.mk.injEq] at h; obtain ⟨rfl, rfl, rfl, rfl, rfl, rfl⟩ := h
    exact lv_lshl hx hb hd rfl (K H locs ls hH hS hl)
  · simp only [Option.some.injEq, Prod.mk.injEq] at h; obtain ⟨rfl, rfl, rfl, rfl, rfl, rfl⟩ := h
    refine W.lcmp hx hb hd ?_
    have := K H locs ls hH hS hl
    simp only [List.map_cons, cV, ofI_to] at this
    exact this
  · simp only [Option.some.injEq, Prod.mk.injEq] at h; obtain ⟨rfl, rfl, rfl, rfl, rfl, rfl⟩ := h
    exact lv_i2l hx hb hd rfl (K H locs ls hH hS hl)
  · simp only [Option.some.injEq, Prod.mk.injEq] at h; obtain ⟨rfl, rfl, rfl, rfl, rfl, rfl⟩ := h
    refine lv_l2i hx hb hd rfl ?_
    have := K H locs ls hH hS hl
    simp only [List.map_cons, cV, ofI_to] at this
    exact this
set_option maxHeartbeats 4000000 in
theorem so_jump (C : Cx p R s m args meth c mr G D tyc X d) {ins : Instr} {len : Nat} (hd : decode mr.2.1 pc = .ok (ins, len)) (hlen : lenOK ins len = true)
    (hi : (∃ k, ins = .goto k) ∨ (∃ o k, ins = .ifCond o k) ∨ (∃ o k, ins = .if_icmp o k) ∨ (∃ a b c d, ins = .tableswitch a b c d) ∨ (∃ a b, ins = .lookupswitch a b) ∨ ins = .dup ∨ ins = .dup2 ∨ ins = .pop)
    (h : stp X mr d ins pc L S M cn sn = some (pc', L', S', M', cn', sn')) (hH : HW G D tyc M H) (hS : va_S (AB G) s.heap H locs) (hl : lh G ls mr.2.2.1 L)
    (K : KK p l e R s m args below meth c Q mr G D tyc pc' L' S' M' cn' sn') : W p l e R s m args below meth c H locs cn sn Q (F0 m pc ls (S.map (cV G))) := by
  obtain ⟨hx, hb, -, hown, hts, -⟩ := C
  rcases hi with ⟨k, rfl⟩ | ⟨o, k, rfl⟩ | ⟨o, k, rfl⟩ | ⟨a1, b1, c1, d1, rfl⟩ | ⟨a1, b1, rfl⟩ | rfl | rfl | rfl
  · simp only [lenOK, beq_iff_eq] at hlen; subst hlen
    simp only [stp, Option.map_eq_some_iff] at h
    obtain ⟨t, ht, h⟩ := h
    simp only [Prod.mk.injEq] at h
    obtain ⟨rfl, rfl, rfl, rfl, rfl, rfl⟩ := h
    exact lv_goto hx hb hd (jmp_ok ht) (K H locs ls hH hS hl)
  · simp only [lenOK, beq_iff_eq] at hlen; subst hlen
    simp only [stp] at h
    split at h
    · next x r =>
      simp only [Option.map_eq_some_iff] at h
      obtain ⟨t, ht, h⟩ := h
      simp only [Prod.mk.injEq] at h
      obtain ⟨rfl, rfl, rfl, rfl, rfl, rfl⟩ := h
      have K' := K H locs ls hH hS hl
      have z0 : Int32.ofInt 0 = 0 := rfl
      cases o
      · exact lv_if_eq hx hb hd (jmp_ok ht) (fun n => by rw [if_pos (by simpa [tst, z0] using n)] at K'; exact K') (fun n => by rw [if_neg (by simpa [tst, z0] using n)] at K'; exact K')
      · exact lv_if_ne hx hb hd (jmp_ok ht) (fun n => by rw [if_pos (by simpa [tst, z0] using n)] at K'; exact K') (fun n => by rw [if_neg (by simpa [tst, z0] using n)] at K'; exact K')
      · exact lv_if_lt hx hb hd (jmp_ok ht) (fun n => by rw [if_pos (by simpa [tst, z0] using n)] at K'; exact K') (fun n => by rw [if_neg (by simpa [tst, z0] using n)] at K'; exact K')
      · exact lv_if_ge hx hb hd (jmp_ok ht) (fun n => by rw [if_pos (by simpa [tst, z0] using n)] at K'; exact K') (fun n => by rw [if_neg (by simpa [tst, z0] using n)] at K'; exact K')
      · exact lv_if_gt hx hb hd (jmp_ok ht) (fun n => by rw [if_pos (by simpa [tst, z0] using n)] at K'; exact K') (fun n => by rw [if_neg (by simpa [tst, z0] using n)] at K'; exact K')
      · exact lv_if_le hx hb hd (jmp_ok ht) (fun n => by rw [if_pos (by simpa [tst, z0] using n)] at K'; exact K') (fun n => by rw [if_neg (by simpa [tst, z0] using n)] at K'; exact K')
    · cases h
  · simp only [lenOK, beq_iff_eq] at hlen; subst hlen
    simp only [stp] at h
    split at h
    · next y x r =>
      simp only [Option.map_eq_some_iff] at h
      obtain ⟨t, ht, h⟩ := h
      simp only [Prod.mk.injEq] at h
      obtain ⟨rfl, rfl, rfl, rfl, rfl, rfl⟩ := h
      have K' := K H locs ls hH hS hl
      have z0 : Int32.ofInt 0 = 0 := rfl
      cases o
      · exact lv_icmp_eq hx hb hd (jmp_ok ht) (fun n => by rw [if_pos (by simpa [tst, z0] using n)] at K'; exact K') (fun n => by rw [if_neg (by simpa [tst, z0] using n)] at K'; exact K')
      · exact lv_icmp_ne hx hb hd (jmp_ok ht) (fun n => by rw [if_pos (by simpa [tst, z0] using n)] at K'; exact K') (fun n => by rw [if_neg (by simpa [tst, z0] using n)] at K'; exact K')
      · exact lv_icmp_lt hx hb hd (jmp_ok ht) (fun n => by rw [if_pos (by simpa [tst, z0] using n)] at K'; exact K') (fun n => by rw [if_neg (by simpa [tst, z0] using n)] at K'; exact K')
      · exact lv_icmp_ge hx hb hd (jmp_ok ht) (fun n => by rw [if_pos (by simpa [tst, z0] using n)] at K'; exact K') (fun n => by rw [if_neg (by simpa [tst, z0] using n)] at K'; exact K')
      · exact lv_icmp_gt hx hb hd (jmp_ok ht) (fun n => by rw [if_pos (by simpa [tst, z0] using n)] at K'; exact K') (fun n => by rw [if_neg (by simpa [tst, z0] using n)] at K'; exact K')
      · exact lv_icmp_le hx hb hd (jmp_ok ht) (fun n => by rw [if_pos (by simpa [tst, z0] using n)] at K'; exact K') (fun n => by rw [if_neg (by simpa [tst, z0] using n)] at K'; exact K')
    · cases h
  · simp only [stp] at h
    split at h
    · next x r =>
      split at h
      · next off hoff =>
        simp only [Option.map_eq_some_iff] at h
        obtain ⟨t, ht, h⟩ := h
        simp only [Prod.mk.injEq] at h
        obtain ⟨rfl, rfl, rfl, rfl, rfl, rfl⟩ := h
        unfold swt at hoff
        split at hoff
        · next hr => cases hoff; exact lv_tableOut hx hb hd hr (jmp_ok ht) (K H locs ls hH hS hl)
        · next hr => exact lv_tableIn hx hb hd (fun q => hr (Or.inl q)) (fun q => hr (Or.inr q)) hoff (jmp_ok ht) (K H locs ls hH hS hl)
      · cases h
    · cases h
  · simp only [stp] at h
    split at h
    · next x r =>
      split at h
      · next hp =>
        simp only [Option.map_eq_some_iff] at h
        obtain ⟨t, ht, h⟩ := h
        simp only [Prod.mk.injEq] at h
        obtain ⟨rfl, rfl, rfl, rfl, rfl, rfl⟩ := h
        exact lv_lookup hx hb hd hp rfl (jmp_ok ht) (K H locs ls hH hS hl)
      · cases h
    · cases h
  · simp only [lenOK, beq_iff_eq] at hlen; subst hlen
    simp only [stp] at h
    split at h
    · next v r =>
      split at h
      · next hc =>
        simp only [Option.some.injEq, Prod.mk.injEq] at h; obtain ⟨rfl, rfl, rfl, rfl, rfl, rfl⟩ := h
        exact lv_dup hx hb hd ((cV_cat G v).trans hc) (K H locs ls hH hS hl)
      · cases h
    · cases h
  · simp only [lenOK, beq_iff_eq] at hlen; subst hlen
    simp only [stp] at h
    split at h
    · next v w r =>
      split at h
      · next hc =>
        simp only [Option.some.injEq, Prod.mk.injEq] at h; obtain ⟨rfl, rfl, rfl, rfl, rfl, rfl⟩ := h
        exact lv_dup2_11 hx hb hd ((cV_cat G _).trans hc.1) ((cV_cat G _).trans hc.2) (K H locs ls hH hS hl)
      · cases h
    · cases h
  · simp only [lenOK, beq_iff_eq] at hlen; subst hlen
    simp only [stp] at h
    split at h
    · next v r =>
      split at h
      · next hc =>
        simp only [Option.some.injEq, Prod.mk.injEq] at h; obtain ⟨rfl, rfl, rfl, rfl, rfl, rfl⟩ := h
        exact lv_pop hx hb hd ((cV_cat G v).trans hc) (K H locs ls hH hS hl)
      · cases h
    · cases h
end Sound
