/-! THE CLAIM OUT OF ONE WALK OF THE LAW'S BODY. Your part is whole_start (and what it stands on); all else here is the same for every law, but numbers. -/
def R_law : String := "GiftMatchLaw"
def lw_P (b : Addr) (xs : List Int32) (args : Array Value) (s : State) : Prop := args = #[.ref b] ∧ s.IntsAt b xs ∧ xs.length ≤ 2560 ∧ (Jvm.Cond.and given_1 narrow_1).before args s = true
def lw_Q (_ : Array Value) (s : State) (o : Outcome) (t : State) : Prop := o = .returned (some (.int 1)) ∧ Framed s o t [] 600000 7302250
def lw_Z (below : List Frame) (a : Array Value) (s : State) : State → Prop := fun t => ∃ o, t.status = .running ∧ Ended t below o ∧ lw_Q a s o t
/-- the law's own end, with 1 on the stack, nothing written that was there before, its room as the claim has it -/
theorem lw_ret {p : Program} {l : Launch} {e : Env} {s : State} {m : MethodId} {below : List Frame} {meth : Method} {c : Code} {b : Nat} (hx : p.tables.exec = Jvm.exec) (hb : c.code = code) (hr : meth.sig.returnType = ret) (hlocks : meth.locks = false) {pc : Nat} {H : Heap} {ls : Array Slot} (hdg : decode code pc = .ok (.ireturn, 1)) : W p l e room_1 s m #[Value.ref b] below meth c H [] 600000 7302250 (lw_Z below #[Value.ref b] s) (F0 m pc ls [.int 1]) := by
  intro T hT X
  obtain ⟨fs, hret, hrun, hended, hW, hframe⟩ := X.leave (v := some (.int 1)) (hlocks := hlocks) (fun h => by rw [hr] at h; cases h)
  have hmeth' : T.vm.method? m = some meth := X.method'
  refine ⟨T.setFrames fs, ?_, .returned (some (.int 1)), hrun, hended, rfl, ⟨_, rfl⟩, hW, hframe⟩
  jvm_step X.here [X.here.top, hx, hb, hdg, hmeth', hr, ret, narrow_b1]
  (try refine ⟨rfl, ?_⟩); (try refine ⟨rfl, ?_⟩)
  first | (intro acts; rw [hret _ acts rfl rfl rfl]) | rw [hret _ _ rfl rfl rfl]
  exact Steps.refl _
/-- what holds at the law's entry: the machine, the code, the tables' words (any of lw_tbl by 'hts w (by decide +kernel)'), the script of L ints xs at the cell b, what the Statement gives of the start (any of its parts by flat_of_before) -/
def lw_At (p : Program) (s : State) (m : MethodId) (meth : Method) (c : Code) (b L : Nat) (xs : Nat → Int32) : Prop :=
  p.tables.exec = Jvm.exec ∧ c.code = code ∧ meth.sig.returnType = ret ∧ c.maxLocals = 4 ∧ s.vm.findClass R_law = some m.cls ∧ (∀ w ∈ lw_tbl, w.before #[Value.ref b] s = true) ∧ va_X b L xs s s.heap ∧ b < s.heap.size ∧ meth.locks = false ∧ (Jvm.Cond.and given_1 narrow_1).before #[Value.ref b] s = true
-- ===== YOUR PART BEGINS =====
theorem law_known {args : Array Value} {s : State} (hts : ∀ w ∈ lw_tbl, w.before args s = true) : ∃ D : va_G, ∀ (c : Nat) (q : vw_C), clsT[c]? = some q → u_Kn s q.1 q.2.1 q.2.2 (D.1 c) (D.2 c) := by
  have key : ∀ ci : Nat, ∃ z : ClassId × (Nat → Nat), ∀ q : vw_C, clsT[ci]? = some q → u_Kn s q.1 q.2.1 q.2.2 z.1 z.2 := by
    intro ci
    match ci with
    | 0 =>
      obtain ⟨c, iS, h⟩ := u_known (C := RX0) (T := TX0) (N := 6) (n := 6) hts uin0 (hts (.instantiable RX0 6) (List.mem_of_getElem? (i := 287) (by decide +kernel)))
      exact ⟨(c, iS), fun q hq => by cases hq; exact h⟩
    | 1 =>
      obtain ⟨c, iS, h⟩ := u_known (C := RX1) (T := TX1) (N := 4) (n := 4) hts uin1 (hts (.instantiable RX1 4) (List.mem_of_getElem? (i := 331) (by decide +kernel)))
      exact ⟨(c, iS), fun q hq => by cases hq; exact h⟩
    | 2 =>
      obtain ⟨c, iS, h⟩ := u_known (C := RX2) (T := TX2) (N := 1) (n := 1) hts uin2 (hts (.instantiable RX2 1) (List.mem_of_getElem? (i := 368) (by decide +kernel)))
      exact ⟨(c, iS), fun q hq => by cases hq; exact h⟩
    | 3 =>
      obtain ⟨c, iS, h⟩ := u_known (C := RX3) (T := TX3) (N := 5) (n := 5) hts uin3 (hts (.instantiable RX3 5) (List.mem_of_getElem? (i := 256) (by decide +kernel)))
      exact ⟨(c, iS), fun q hq => by cases hq; exact h⟩
    | 4 =>
      obtain ⟨c, iS, h⟩ := u_known (C := RX4) (T := TX4) (N := 3) (n := 3) hts uin4 (hts (.instantiable RX4 3) (List.mem_of_getElem? (i := 352) (by decide +kernel)))
      exact ⟨(c, iS), fun q hq => by cases hq; exact h⟩
    | 5 =>
      obtain ⟨c, iS, h⟩ := u_known (C := RX5) (T := TX5) (N := 5) (n := 5) hts uin5 (hts (.instantiable RX5 5) (List.mem_of_getElem? (i := 204) (by decide +kernel)))
      exact ⟨(c, iS), fun q hq => by cases hq; exact h⟩
    | 6 =>
      obtain ⟨c, iS, h⟩ := u_known (C := RX6) (T := TX6) (N := 2) (n := 2) hts uin6 (hts (.instantiable RX6 2) (List.mem_of_getElem? (i := 318) (by decide +kernel)))
      exact ⟨(c, iS), fun q hq => by cases hq; exact h⟩
    | 7 =>
      obtain ⟨c, iS, h⟩ := u_known (C := RX7) (T := TX7) (N := 5) (n := 5) hts uin7 (hts (.instantiable RX7 5) (List.mem_of_getElem? (i := 98) (by decide +kernel)))
      exact ⟨(c, iS), fun q hq => by cases hq; exact h⟩
    | 8 =>
      obtain ⟨c, iS, h⟩ := u_known (C := RX8) (T := TX8) (N := 12) (n := 12) hts uin8 (hts (.instantiable RX8 12) (List.mem_of_getElem? (i := 91) (by decide +kernel)))
      exact ⟨(c, iS), fun q hq => by cases hq; exact h⟩
    | 9 =>
      obtain ⟨c, iS, h⟩ := u_known (C := RX9) (T := TX9) (N := 7) (n := 7) hts uin9 (hts (.instantiable RX9 7) (List.mem_of_getElem? (i := 227) (by decide +kernel)))
      exact ⟨(c, iS), fun q hq => by cases hq; exact h⟩
    | 10 =>
      obtain ⟨c, iS, h⟩ := u_known (C := RX10) (T := TX10) (N := 12) (n := 12) hts uin10 (hts (.instantiable RX10 12) (List.mem_of_getElem? (i := 83) (by decide +kernel)))
      exact ⟨(c, iS), fun q hq => by cases hq; exact h⟩
    | 11 =>
      obtain ⟨c, iS, h⟩ := u_known (C := RX11) (T := TX11) (N := 29) (n := 29) hts uin11 (hts (.instantiable RX11 29) (List.mem_of_getElem? (i := 820) (by decide +kernel)))
      exact ⟨(c, iS), fun q hq => by cases hq; exact h⟩
    | k + 12 => exact ⟨(0, fun _ => 0), fun q hq => by simp [clsT] at hq⟩
  obtain ⟨f, hf⟩ := Classical.axiomOfChoice key
  exact ⟨(fun k => (f k).1, fun k => (f k).2), fun c q hq => hf c q hq⟩
theorem law_arr {args : Array Value} {s : State} {ty : FieldType} (h : (Cond.arrayClass ty).before args s = true) : ∃ cA, s.vm.findClass ("[" ++ ty.toString) = some cA ∧ ArrOfT s cA ty := by
  obtain ⟨cA, kA, comp, h1, h2, h3⟩ := Cond.arrayClass_spec h
  exact ⟨cA, h1, fun n z => ⟨fun k h => (by cases h), kA, h2, comp, h3⟩⟩
theorem law_arro {s : State} {C : String} (h : va_AO C s) : ∃ cA, ArrOfT s cA (.object C) ∧ va_RA s cA (.object C) := by
  obtain ⟨comp, cA, kA, h1, h2, h3, h4, h5⟩ := Cond.arrayOver_spec (va_AO.use (A := #[]) h)
  exact ⟨cA, fun n z => ⟨fun k h => (by cases h), kA, h3, comp, h4⟩, kA, comp, h3, h4, h1, h5⟩
/-- what the Statement says of the static row -/
theorem law_roots {args : Array Value} {s : State} (hgv : (Jvm.Cond.and given_1 narrow_1).before args s = true) : ∃ t : Nat, (Term.static "GiftMatch" "ROOTS" "[I").eval args s none [] s = some (.ref t) ∧ va_T .int t 13 (fun j => .int (Int32.ofInt (rootZ j))) (fun q => s.heap.size ≤ q) s s.heap := by
  have hs := flat_of_before _ hgv
  refine va_Tof (by decide) (hs (Cond.arrayOf (.static "GiftMatch" "ROOTS" "[I") .int) (by decide +kernel)) (va_eqt (hs (Cond.eq (.length (.static "GiftMatch" "ROOTS" "[I")) (.int 13)) (by decide +kernel))) (fun j hj => ?_) (fun a ha => Nat.not_le.mpr ha)
  match j, hj with
  | 0, _ => exact va_eqt (hs (Cond.eq (.elem (.static "GiftMatch" "ROOTS" "[I") (.int 0)) (.int 0)) (by decide +kernel))
  | 1, _ => exact va_eqt (hs (Cond.eq (.elem (.static "GiftMatch" "ROOTS" "[I") (.int 1)) (.int 1000000)) (by decide +kernel))
  | 2, _ => exact va_eqt (hs (Cond.eq (.elem (.static "GiftMatch" "ROOTS" "[I") (.int 2)) (.int 1414213)) (by decide +kernel))
  | 3, _ => exact va_eqt (hs (Cond.eq (.elem (.static "GiftMatch" "ROOTS" "[I") (.int 3)) (.int 1732050)) (by decide +kernel))
  | 4, _ => exact va_eqt (hs (Cond.eq (.elem (.static "GiftMatch" "ROOTS" "[I") (.int 4)) (.int 2000000)) (by decide +kernel))
  | 5, _ => exact va_eqt (hs (Cond.eq (.elem (.static "GiftMatch" "ROOTS" "[I") (.int 5)) (.int 2236067)) (by decide +kernel))
  | 6, _ => exact va_eqt (hs (Cond.eq (.elem (.static "GiftMatch" "ROOTS" "[I") (.int 6)) (.int 2449489)) (by decide +kernel))
  | 7, _ => exact va_eqt (hs (Cond.eq (.elem (.static "GiftMatch" "ROOTS" "[I") (.int 7)) (.int 2645751)) (by decide +kernel))
  | 8, _ => exact va_eqt (hs (Cond.eq (.elem (.static "GiftMatch" "ROOTS" "[I") (.int 8)) (.int 2828427)) (by decide +kernel))
  | 9, _ => exact va_eqt (hs (Cond.eq (.elem (.static "GiftMatch" "ROOTS" "[I") (.int 9)) (.int 3000000)) (by decide +kernel))
  | 10, _ => exact va_eqt (hs (Cond.eq (.elem (.static "GiftMatch" "ROOTS" "[I") (.int 10)) (.int 3162277)) (by decide +kernel))
  | 11, _ => exact va_eqt (hs (Cond.eq (.elem (.static "GiftMatch" "ROOTS" "[I") (.int 11)) (.int 3316624)) (by decide +kernel))
  | 12, _ => exact va_eqt (hs (Cond.eq (.elem (.static "GiftMatch" "ROOTS" "[I") (.int 12)) (.int 3464101)) (by decide +kernel))
  | k + 13, hj => omega
set_option maxHeartbeats 4000000 in
theorem whole_start {p : Program} {e : Env} {s : State} {m : MethodId} {below : List Frame} {meth : Method} {c : Code} (l : Launch) {b L : Nat} {xs : Nat → Int32} (hL : L ≤ 2560) (C0 : lw_At p s m meth c b L xs) : W p l e room_1 s m #[Value.ref b] below meth c s.heap [] 0 0 (lw_Z below #[Value.ref b] s) (entryFrame m ([Value.ref b] : List Value).toArray 4) := by
  obtain ⟨hx, hb, hr, hml, hown, hts, hX, hbl, hlocks, hgv⟩ := C0
  obtain ⟨n, M', hrun⟩ := law_run (L, xs) hL
  obtain ⟨D, hD⟩ := law_known hts
  obtain ⟨cI, i1, i2⟩ := law_arr (hts _ w_aI)
  obtain ⟨cJ, j1, j2⟩ := law_arr (hts _ w_aJ)
  obtain ⟨cZ, z1, z2⟩ := law_arr (hts _ w_aZ)
  have hao1 : va_AO "GiftMatch$Rule" s := va_AO.of (hts _ w_aR)
  have hao2 : va_AO "GiftMatch$Scene" s := va_AO.of (hts _ w_aS)
  obtain ⟨cR, r1, r2⟩ := law_arro hao1
  obtain ⟨cS, s1, s2⟩ := law_arro hao2
  obtain ⟨t, ht, hT⟩ := law_roots hgv
  have hZ : va_Z "GiftMatch" "ROOTS" "[I" (.ref t) (fun q => s.heap.size ≤ q) s s.heap := va_Zof (hts _ w_rs) (hts _ w_ri) ht (fun a ha => Nat.not_le.mpr ha)
  have hK : va_K D clsT (tysOf (fun k => [cI, cJ, cZ, cR, cS].getD k 0)) s := by
    refine ⟨hD, fun k q hq => ?_⟩
    match k, hq with
    | 0, hq => cases hq; exact ⟨i2, i1⟩
    | 1, hq => cases hq; exact ⟨j2, j1⟩
    | 2, hq => cases hq; exact ⟨z2, z1⟩
    | 3, hq => cases hq; exact ⟨r1, r2⟩
    | 4, hq => cases hq; exact ⟨s1, s2⟩
    | k + 5, hq => simp [tysOf] at hq
  have hSt : St (s.heap.size, t, b) D (fun k => [cI, cJ, cZ, cR, cS].getD k 0) (L, xs) s := by
    refine ⟨hK, fun w hw => va_Nw.of ?_ (hts w (nestT_in w hw)), hao1, hao2, hZ, hT, hX, hbl, Nat.le_refl _, hL⟩
    simp only [nestT, List.mem_cons, List.not_mem_nil, or_false] at hw
    rcases hw with rfl | rfl | rfl | rfl | rfl <;> rfl
  have hent : lh (s.heap.size, t, b) ((lg_sl ([Value.ref b]) ++ List.replicate (4 - (lg_sl ([Value.ref b])).length) Slot.unset).toArray) 4 (argL [sv 2] 4) := lh_entry (G := (s.heap.size, t, b)) (As := [sv 2]) (n := 4) rfl
  have hgo := run_W (l := l) (G := (s.heap.size, t, b)) (D := D) (tyc := fun k => [cI, cJ, cZ, cR, cS].getD k 0) (X := (L, xs)) n (p := p) (e := e) (R := room_1) (s := s) (m := m) (args := #[Value.ref b]) (below := below) (meth := meth) (c := c) (Q := lw_Z below #[Value.ref b] s) (H := s.heap) (locs := []) hrun
    ⟨hx, hb, hml, hown, fun w hw => hts w (List.mem_filter.mp hw).1, hSt, fun h9 => absurd h9 (by decide), Nat.le_refl _, Nat.le_refl _, by decide, Nat.le_refl _⟩ rfl ⟨rfl, fun k q hq => by simp [cW] at hq⟩ va_S.rf hent
  rw [lg_entry_eq]
  refine hgo ?_
  intro H' locs' ls' pc' S' ins len sn' hd hl2 hrt hsn hH' hS'
  refine va_forget (fun q hq => hS'.2.2 q hq) ?_
  refine W.widen (k := 600000) (n := 7302250) (by decide) hsn ?_
  unfold rtn at hrt
  split at hrt
  · next e1 => cases e1
  · next e1 =>
    simp only [lenOK, beq_iff_eq] at hl2; subst hl2
    split at hrt
    · next z =>
      split at hrt
      · cases hrt; exact lw_ret hx hb hr hlocks hd
      · cases hrt
    · cases hrt
  · next e1 => cases e1
  · next e1 => cases e1
  · cases hrt
-- ===== YOUR PART ENDS =====
set_option maxHeartbeats 4000000 in
theorem lw_walk (l : Launch) (b : Addr) (xs : List Int32) : MetFree l x (headSpec (Jvm.Cond.code x code maxLocals ret :: tables_1) room_1) (lw_P b xs) (fun _ _ _ _ _ => True) lw_Q := by
  refine MetFree.of_bodyS (code := code) (maxLocals := maxLocals) (ret := ret) (by decide) ?_ ?_
  · intro args s m h hn
    obtain ⟨meth, c, h1, h2, h3, h4, h5, h6, -, -⟩ := Cond.code_spec hn (atoms_spec (ws := Jvm.Cond.code x code maxLocals ret :: tables_1) h _ List.mem_cons_self)
    exact ⟨meth, c, h1, h2, h3, h4, h5, h6⟩
  · intro p e s m args below meth c s₁ B hml0 hP _
    obtain ⟨rfl, hx, hbd, hgv⟩ := hP
    obtain ⟨scr, harrAt, hlist, hof, hsmall⟩ := hx
    obtain ⟨hcb, hkn, -, -⟩ := State.arrayAt?_spec harrAt
    have hown : s.vm.findClass R_law = some m.cls := findClass_of_methodNamed B.named
    have hts0 : ∀ c ∈ (Jvm.Cond.code x code maxLocals ret :: tables_1), c.before #[Value.ref b] s = true := atoms_spec (ws := Jvm.Cond.code x code maxLocals ret :: tables_1) B.pre
    have hts : ∀ w ∈ lw_tbl, w.before #[Value.ref b] s = true := k2_hts_sels lw_privs (fun w hw => hts0 w (List.mem_cons_of_mem _ hw)) lw_privs_ok
    have hml : c.maxLocals = 4 := B.maxLocals_eq (hts0 _ List.mem_cons_self)
    have X₀ : Stand p l e room_1 s m #[Value.ref b] below meth c s₁ [] 0 0 := Stand.of_body B
    have hh0 : s₁.heap = s.heap := by rw [B.state]; rfl
    have hsz : scr.slots.size = xs.length := by rw [← Array.length_toList, hlist, List.length_map]
    have hval : ∀ j : Nat, j < xs.length → scr.slots[j]? = some (.int (xs.getD j 0)) := fun j hj => by
      rw [← Array.getElem?_toList, hlist]
      simp [hj]
    have hbl : b < s.heap.size := (Array.getElem?_eq_some_iff.mp hcb).1
    have hX : va_X b xs.length (fun j => xs.getD j 0) s s.heap := ⟨scr, hcb, hof, hkn, hsz, hval⟩
    have K : W p l e room_1 s m #[Value.ref b] below meth c s₁.heap [] 0 0 (lw_Z below #[Value.ref b] s) (entryFrame m ([Value.ref b] : List Value).toArray 4) := by
      rw [hh0]
      exact whole_start l hbd ⟨B.exec, B.bytes, B.returns, hml, hown, hts, hX, hbl, B.notSynchronized, hgv⟩
    obtain ⟨t, a1, o, b1, b2, b3⟩ := K s₁ rfl X₀
    exact ⟨t, o, a1, b1, b2, b3⟩
theorem lw_pre_spec {args : Array Value} {s : State} (h : (Jvm.Cond.and given_1 narrow_1).before args s = true) (hr : rest_1_c.before args s = true) : ∃ (b : Addr) (xs : List Int32), lw_P b xs args s := by
  have hs := flat_of_before _ h
  have hq := flat_of_before _ hr
  have hc : (Cond.count 1).before args s = true := hs _ (by decide +kernel)
  have harr : (Cond.arrayOf (.arg 0) .int).before args s = true := hs _ (by decide +kernel)
  have hle : (Cond.le (.length (.arg 0)) (.int 2560)).before args s = true := hs _ (by decide +kernel)
  have hlen : (Cond.isInt (.length (.arg 0))).before args s = true := hq _ (by decide +kernel)
  have hall : (Cond.all (.arg 0) (.isInt (.elem (.arg 0) (.index 0)))).before args s = true := hq _ (by decide +kernel)
  obtain ⟨b, xs, hb, hx⟩ := State.ints_of_pre rfl harr hlen hall
  have hsm : xs.length < 2 ^ 31 := hx.choose_spec.2.2.2
  have hev : (Term.length (.arg 0)).eval args s none [] s = some (.int xs.length.toInt32) := hx.length_eval hb
  have hv := Cond.le_ints hev (show (Term.int 2560).eval args s none [] s = some (.int 2560) from rfl)
  have hd : xs.length.toInt32 ≤ 2560 := by
    simpa [Cond.before, Cond.holds, hv] using hle
  have hN : xs.length ≤ 2560 := (Int32.ofNat_le_ofNat hsm (by decide)).mp (show Int32.ofNat xs.length ≤ Int32.ofNat 2560 from hd)
  exact ⟨b, xs, Cond.one_arg hc (show args[0]? = some (.ref b) from hb), hx, hN, h⟩
theorem lw_comes (l : Launch) : Comes l x (Jvm.Cond.code x code maxLocals ret :: tables_1) room_1 (fun tb e args s => Calls_1 tb e args s ∧ rest_1 tb e args s ∧ Pre_1 tb e args s)
    (fun _ _ args s o t => lw_Q args s o t) := by
  intro p e ha hc hk s m args below hf hfit hheap happ hpre
  obtain ⟨b, xs, hP⟩ := lw_pre_spec hpre.2.2 hpre.2.1
  obtain ⟨k, o, h1, h2, h3, hQ⟩ := lw_walk l b xs p e ha hc hk s m args below hf ((Spec.applies_iff_loose hf).mp happ).1 hP trivial
  exact ⟨k, o, h1, h2, h3, hQ⟩
theorem lw_frame {s t : State} {o : Outcome} {args : Array Value} (h : Framed s o t [] 600000 7302250) :
    Framed s o t (fieldLocs frame_1_writes args s ++ arrayLocs frame_1_arrays args s ++ staticLocs frame_1_statics s) 600000 7302250 := h
theorem lw_limb (L : Cond) (hL : ∀ (args : Array Value) (s t : State), L.after args s (.returned (some (.int 1))) t = true) :
    ArmFor flags0 classFile x code maxLocals ret World_1 tables_1 room_1 Calls_1 rest_1 Pre_1
      (fun tb e a s o t => postC L tb e a s o t ∧ Framed s o t (fieldLocs frame_1_writes a s ++ arrayLocs frame_1_arrays a s ++ staticLocs frame_1_statics s) 600000 7302250) := by
  intro l _ _ _ p e ha hc hk s m args below hf hfit hheap happ hpre
  obtain ⟨k, o, h1, h2, h3, rfl, hF⟩ := lw_comes l p e ha hc hk s m args below hf hfit hheap happ hpre
  exact ⟨k, _, h1, h2, h3, hL args s _, lw_frame hF⟩
theorem i_vc : Claimed_1_1 ∧ Claimed_1_2 := ⟨lw_limb limb_1_1 (fun args s t => by simp [limb_1_1, Cond.after, Cond.holds, Cond.value]), lw_limb limb_1_2 (fun args s t => Cond.after_iff.mpr (by
  first | (rw [show limb_1_2 = Cond.eq .result (.int 1) from rfl, Cond.eq_ints (x := 1) (y := 1) rfl rfl]; simp; done) | (simp [limb_1_2, Cond.value, Term.eval]; done)))⟩
