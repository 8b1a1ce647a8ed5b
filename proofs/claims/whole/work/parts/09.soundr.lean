section SoundR
variable {p : Program} {l : Launch} {e : Env} {R : Room} {s : State} {m : MethodId} {args : Array Value} {below : List Frame} {meth : Method} {c : Code} {H : Heap} {locs : List Loc} {Q : State → Prop}
variable {mr : MRec} {G : GB} {D : va_G} {tyc : Nat → ClassId} {X : AX} {d : Nat} {pc pc' : Nat} {L L' : AL} {S S' : List AV} {M M' : AM} {cn sn cn' sn' : Nat} {ls : Array Slot}
set_option maxHeartbeats 4000000 in
theorem stp_sound (C : Cx p R s m args meth c mr G D tyc X d) {ins : Instr} {len : Nat} (hd : decode mr.2.1 pc = .ok (ins, len)) (hlen : lenOK ins len = true) (hz : s.heap.size + cn = G.1 + M.length)
    (h : stp X mr d ins pc L S M cn sn = some (pc', L', S', M', cn', sn')) (hH : HW G D tyc M H) (hS : va_S (AB G) s.heap H locs) (hl : lh G ls mr.2.2.1 L)
    (K : KK p l e R s m args below meth c Q mr G D tyc pc' L' S' M' cn' sn') : W p l e R s m args below meth c H locs cn sn Q (F0 m pc ls (S.map (cV G))) := by
  cases ins
  all_goals first
    | (simp only [stp] at h; cases h; done)
    | (refine so_load C hd hlen ?_ h hH hS hl K; simp; done)
    | (refine so_store C hd hlen ?_ h hH hS hl K; simp; done)
    | (refine so_const C hd hlen ?_ h hH hS hl K; simp; done)
    | (refine so_arith C hd hlen ?_ h hH hS hl K; simp; done)
    | (refine so_jump C hd hlen ?_ h hH hS hl K; simp; done)
    | (refine so_read C hd hlen ?_ h hH hS hl K; simp; done)
    | (refine so_write C hd hlen hz ?_ h hH hS hl K; simp; done)
    | (refine so_new C hd hlen ?_ h hH hS hl K; simp; done)
set_option maxHeartbeats 4000000 in
theorem stp_len {ins : Instr} (h : stp X mr d ins pc L S M cn sn = some (pc', L', S', M', cn', sn')) : cn' + M.length = cn + M'.length := by
  unfold stp at h
  repeat' split at h
  all_goals first
    | (cases h; done)
    | (cases h; first | rfl | (simp only [List.length_set]; done) | (simp only [List.length_append, List.length_cons, List.length_nil]; omega))
    | (simp only [Option.map_eq_some_iff] at h; obtain ⟨_, _, h⟩ := h; cases h; rfl)
theorem run_len : ∀ (n : Nat) {d : Nat} {mr : MRec} {pc : Nat} {L : AL} {S : List AV} {M : AM} {cn sn : Nat} {v : Option AV} {M' : AM}, run X n d mr pc L S M cn sn = some (v, M') → mr.2.2.2.2.1 + M.length = cn + M'.length := by
  intro n
  induction n with
  | zero => intro d mr pc L S M cn sn v M' h; cases h
  | succ n ih =>
    intro d mr pc L S M cn sn v M' h
    unfold run at h
    split at h
    · next ins len hd =>
      split at h
      · split at h
        · split at h
          · next hc => cases h; omega
          · cases h
        · split at h
          · next pc' L' S' M1 c' s' hst =>
            have h1 := stp_len hst
            have h2 := ih h
            omega
          · split at h
            · next mr' As r hcal =>
              split at h
              · cases h
              · split at h
                · next hc =>
                  split at h
                  · next v1 M1 hr1 =>
                    have h1 := ih hr1
                    have h2 := ih h
                    omega
                  · cases h
                · cases h
            · cases h
      · cases h
    · cases h
def mrOK (mr : MRec) : Prop := mr.1.cls = own mr.2.2.2.2.2.2 ∧ plainName mr.1.cls = true ∧ mr.2.2.1 ≤ 22 ∧ Cond.code mr.1 mr.2.1 mr.2.2.1 mr.2.2.2.1 ∈ gtbl
theorem ml_ok {oc idx oc' idx' kind na : Nat} {mr' : MRec} {ps : List Nat} (h : ml oc idx = some (oc', idx', kind, na, mr', ps)) : idx' = idx ∧ oc' = oc ∧ mrOK mr' ∧ (∀ w ∈ mlW (oc, idx, kind, na, mr', ps), w ∈ gtbl) ∧ (mr'.1.cls ≠ "java/lang/invoke/MethodHandle" ∧ mr'.1.cls ≠ "java/lang/invoke/VarHandle" ∧ (parseMethodDescriptor mr'.1.desc).map (fun d => d.parameters.length) = some na) ∧ (kind = 3 ∨ kind = 4 → mr'.1.name = "<init>" ∧ mr'.2.2.2.1 = none) ∧ (kind = 4 → Cond.methodLinkNest (own oc) idx mr'.1 "GiftMatch" ∈ nestT) := by
  have hall : ∀ e ∈ mlT oc, mlK oc e = true ∧ mlC e ∈ lw_tbl := by
    unfold mlT
    match oc with
    | 0 => exact fun e he => ⟨List.all_eq_true.mp mlT0_ok e he, mlT0_cw e he⟩
    | 1 => exact fun e he => ⟨List.all_eq_true.mp mlT1_ok e he, mlT1_cw e he⟩
    | 2 => exact fun e he => ⟨List.all_eq_true.mp mlT2_ok e he, mlT2_cw e he⟩
    | 3 => exact fun e he => ⟨List.all_eq_true.mp mlT3_ok e he, mlT3_cw e he⟩
    | 4 => exact fun e he => ⟨List.all_eq_true.mp mlT4_ok e he, mlT4_cw e he⟩
    | 5 => exact fun e he => ⟨List.all_eq_true.mp mlT5_ok e he, mlT5_cw e he⟩
    | 6 => exact fun e he => ⟨List.all_eq_true.mp mlT6_ok e he, mlT6_cw e he⟩
    | 7 => exact fun e he => ⟨List.all_eq_true.mp mlT7_ok e he, mlT7_cw e he⟩
    | 8 => exact fun e he => ⟨List.all_eq_true.mp mlT8_ok e he, mlT8_cw e he⟩
    | 9 => exact fun e he => ⟨List.all_eq_true.mp mlT9_ok e he, mlT9_cw e he⟩
    | 10 => exact fun e he => ⟨List.all_eq_true.mp mlT10_ok e he, mlT10_cw e he⟩
    | 11 => exact fun e he => ⟨List.all_eq_true.mp mlT11_ok e he, mlT11_cw e he⟩
    | 12 => exact fun e he => ⟨List.all_eq_true.mp mlT12_ok e he, mlT12_cw e he⟩
    | 13 => exact fun e he => absurd he List.not_mem_nil
    | _ + 14 => exact fun e he => absurd he List.not_mem_nil
  unfold ml at h
  obtain ⟨h1, h3⟩ := hall _ (List.mem_of_find?_eq_some h)
  have h2 : idx' = idx := by simpa using List.find?_some h
  subst h2
  obtain ⟨y, b, mL, ret, mc, ms, oy⟩ := mr'
  unfold mlK at h1
  simp only [Bool.and_eq_true, decide_eq_true_eq, Bool.or_eq_true, Bool.not_eq_true', Bool.or_eq_false_iff, decide_eq_false_iff_not] at h1
  obtain ⟨⟨⟨⟨⟨⟨⟨⟨⟨a1, a2⟩, a3⟩, a3'⟩, a4⟩, a5⟩, a6⟩, a7⟩, a8⟩, a9⟩ := h1
  subst a1
  refine ⟨rfl, rfl, ⟨a3, a3', a4, in_g h3 rfl⟩, fun w hw => ?_, a5, fun hk => ?_, fun hk => ?_⟩
  · have g := List.all_eq_true.mp a8 w hw
    rw [a2] at hw
    obtain ⟨i, -, hi⟩ := List.mem_filterMap.mp hw
    exact in_g (List.mem_of_getElem? hi) g
  · rcases a7 with q | ⟨q1, q2⟩
    · exact q
    · rcases hk with hk | hk
      · exact absurd hk q1
      · exact absurd hk q2
  · rcases a9 with q | q
    · exact absurd hk q
    · exact List.contains_iff_mem.mp q
theorem good_g {ws : List Cond} (h : ∀ w ∈ ws, w ∈ gtbl) : GoodIn gtbl ws := fun w hw => ⟨h w hw, good_of_word (List.mem_filter.mp (h w hw)).2⟩
theorem v_call {v : Option AV} {st0 rest : List Value} {mc ms : Nat} (hr : va_Run p l e R s m args below meth c H locs cn sn mc ms (F0 m pc ls st0) rest (fun st oc t => oc = .returned (v.map (cV G)) ∧ HW G D tyc M' t.heap ∧ va_F (AB G) st t) (AB G)) (hS : va_S (AB G) s.heap H locs)
    (kk : ∀ (H1 : Heap) (locs1 : List Loc), HW G D tyc M' H1 → va_S (AB G) s.heap H1 locs1 → W p l e R s m args below meth c H1 locs1 (cn + mc) (sn + ms) Q (F0 m (pc + 3) ls ((v.map (cV G)).toList ++ rest))) : W p l e R s m args below meth c H locs cn sn Q (F0 m pc ls st0) := by
  intro T hT X
  obtain ⟨v1, st₀, t, T', L, h0, X', hL, e1, e2, ⟨hv, hp, hz, hk⟩, st⟩ := hr T hT X
  have hv' := Outcome.returned.inj hv
  subst hv'
  rw [h0] at hz hk
  obtain ⟨t2, a1, b1⟩ := kk T'.heap (locs ++ L) (by rw [e1]; exact hp)
    ⟨Nat.le_trans hS.1 (by rw [e1]; exact hz), fun q h1 h2 => by rw [e1, hk q (Nat.lt_of_lt_of_le h1 hS.1) h2]; exact hS.2.1 q h1 h2, fun q hq => by
      rcases List.mem_append.mp hq with h | h
      · exact hS.2.2 q h
      · exact hL q h⟩ T' rfl X'
  exact ⟨t2, st t2 a1, b1⟩
theorem St_calling {U : State} {g : JFrame} {mk : MethodId} {a : Array Value} (h : St G D tyc X U) : St G D tyc X (U.calling g mk a) := by
  obtain ⟨h1, h2, h3, h4, h5, h6, h7, h8⟩ := h
  exact ⟨va_K.moved (u := U) (U := U.calling g mk a) (Vm.Alike.refl U.vm) h1, fun w hw => by
    have hm : w.onTables = true := by
      simp only [nestT, List.mem_cons, List.not_mem_nil, or_false] at hw
      rcases hw with rfl | rfl | rfl | rfl | rfl <;> rfl
    exact va_Nw.same (u := U) (U := U.calling g mk a) hm rfl (h2 w hw), va_AO.moved (u := U) (U := U.calling g mk a) (Vm.Alike.refl U.vm) h3, va_AO.moved (u := U) (U := U.calling g mk a) (Vm.Alike.refl U.vm) h4, va_Z.moved (u := U) (U := U.calling g mk a) (Vm.Alike.refl U.vm) h5, va_T.moved (u := U) (U := U.calling g mk a) (Vm.Alike.refl U.vm) h6, va_X.moved (u := U) (U := U.calling g mk a) (Vm.Alike.refl U.vm) h7, h8⟩
theorem St_warm {U : State} (h : St G D tyc X s) (hS : va_S (AB G) s.heap H locs) (hU : U.heap = H) (hW : s.WarmedH U.vm) : St G D tyc X U := by
  obtain ⟨h1, h2, h3, h4, h5, h6, h7, h8, h9, h10⟩ := h
  refine ⟨va_K.moved hW.alike h1, fun w hw => ?_, va_AO.moved hW.alike h3, va_AO.moved hW.alike h4, by rw [hU]; exact va_Z.moved hW.alike (h5.kept hS.2.1), by rw [hU]; exact va_T.moved hW.alike (h6.kept hS.2.1), by rw [hU]; exact va_X.moved hW.alike (h7.kept (hS.2.1 _ (Nat.lt_of_lt_of_le h8 h9) (Nat.not_le.mpr h8))), h8, by rw [hU]; exact Nat.le_trans h9 hS.1, h10⟩
  have h := h2 w hw
  simp only [nestT, List.mem_cons, List.not_mem_nil, or_false] at hw
  rcases hw with rfl | rfl | rfl | rfl | rfl
  all_goals first
    | exact va_Nw.warmM hW h
    | exact va_Nw.warmF hW h
def MetOf (l : Launch) (G : GB) (D : va_G) (tyc : Nat → ClassId) (X : AX) (d : Nat) (mr : MRec) (As : List AV) (M : AM) (v : Option AV) (M' : AM) : Prop :=
  Met l mr.1 (Cond.code mr.1 mr.2.1 mr.2.2.1 mr.2.2.2.1 :: gtbl) { frames := d, cells := mr.2.2.2.2.1, slots := mr.2.2.2.2.2.1, locals := 41 * d } (va_Pc (As.map (cV G)) (fun U => HW G D tyc M U.heap ∧ St G D tyc X U)) (fun _ st oc t => oc = .returned (v.map (cV G)) ∧ HW G D tyc M' t.heap ∧ va_F (AB G) st t) mr.2.2.2.2.1 mr.2.2.2.2.2.1 (AB G)
theorem blind {As : List AV} : FrameBlind (va_Pc (As.map (cV G)) (fun U => HW G D tyc M U.heap ∧ St G D tyc X U)) := fun a U g mk q => ⟨q.1, q.2.1, St_calling q.2.2⟩
theorem cls_own {ci : Nat} {r : vw_C} (h : clsT[ci]? = some r) : r.1 = own ci := by
  have hlt : ci < 12 := (List.getElem?_eq_some_iff.mp h).1
  have key : ∀ ci, ci < 12 → ∀ r, clsT[ci]? = some r → r.1 = own ci := by
    intro ci hlt r h
    match ci, hlt, h with
    | 0, _, h => cases h; rfl
    | 1, _, h => cases h; rfl
    | 2, _, h => cases h; rfl
    | 3, _, h => cases h; rfl
    | 4, _, h => cases h; rfl
    | 5, _, h => cases h; rfl
    | 6, _, h => cases h; rfl
    | 7, _, h => cases h; rfl
    | 8, _, h => cases h; rfl
    | 9, _, h => cases h; rfl
    | 10, _, h => cases h; rfl
    | 11, _, h => cases h; rfl
    | k + 12, hlt, h => omega
  exact key ci hlt r h
set_option maxHeartbeats 4000000 in
/-- a call, the callee's contract at hand -/
theorem so_call {dd : Nat} (C : Cx p R s m args meth c mr G D tyc X (dd + 1)) {ins : Instr} {len : Nat} (hd : decode mr.2.1 pc = .ok (ins, len)) (hlen : lenOK ins len = true)
    {mr' : MRec} {As r : List AV} (hcal : cal mr ins S M = some (mr', As, r)) {v : Option AV} (hM : MetOf l G D tyc X dd mr' As M v M') (hmc : cn + mr'.2.2.2.2.1 ≤ mr.2.2.2.2.1) (hms : sn + mr'.2.2.2.2.2.1 ≤ mr.2.2.2.2.2.1)
    (hH : HW G D tyc M H) (hS : va_S (AB G) s.heap H locs) (hl : lh G ls mr.2.2.1 L)
    (K : KK p l e R s m args below meth c Q mr G D tyc (pc + 3) L (v.toList ++ r) M' (cn + mr'.2.2.2.2.1) (sn + mr'.2.2.2.2.2.1)) : W p l e R s m args below meth c H locs cn sn Q (F0 m pc ls (S.map (cV G))) := by
  obtain ⟨hx, hb, hml, hown, hts, hSt, hnm, hfr, hlo, hmcR, hmsR⟩ := C
  have hK := hSt.1
  have hmap : ((v.toList ++ r).map (cV G)) = (v.map (cV G)).toList ++ r.map (cV G) := by
    cases v <;> simp
  have fin : ∀ (H1 : Heap) (locs1 : List Loc), HW G D tyc M' H1 → va_S (AB G) s.heap H1 locs1 → W p l e R s m args below meth c H1 locs1 (cn + mr'.2.2.2.2.1) (sn + mr'.2.2.2.2.2.1) Q (F0 m (pc + 3) ls ((v.map (cV G)).toList ++ r.map (cV G))) := fun H1 locs1 a b => by
    rw [← hmap]
    exact K H1 locs1 ls a b hl
  have hpre : ∀ U : State, U.heap = H → s.WarmedH U.vm → va_Pc (As.map (cV G)) (fun U => HW G D tyc M U.heap ∧ St G D tyc X U) (As.map (cV G)).toArray U := fun U hU hW => ⟨rfl, by rw [hU]; exact hH, St_warm hSt hS hU hW⟩
  have split9 : ∀ na : Nat, (S.take na).length = na → S.map (cV G) = ((S.take na).reverse.map (cV G)).reverse ++ (S.drop na).map (cV G) := by
    intro na _
    rw [← List.map_reverse, List.reverse_reverse, ← List.map_append, List.take_append_drop]
  have hroom : mr'.2.2.1 ≤ 22 → ({ frames := dd, cells := mr'.2.2.2.2.1, slots := mr'.2.2.2.2.2.1, locals := 41 * dd } : Room).frames + 1 ≤ R.frames ∧ 8 + (mr'.2.2.1 + 11) + ({ frames := dd, cells := mr'.2.2.2.2.1, slots := mr'.2.2.2.2.2.1, locals := 41 * dd } : Room).locals ≤ R.locals := fun h22 => ⟨hfr, by show 8 + (mr'.2.2.1 + 11) + 41 * dd ≤ R.locals; omega⟩
  unfold cal at hcal
  split at hcal
  · next k =>
    simp only [lenOK, beq_iff_eq] at hlen; subst hlen
    split at hcal
    · next oc' idx' na mrr ps hml9 =>
      split at hcal
      · next q r9 hdrop =>
        split at hcal
        · next ci fs hMq =>
          split at hcal
          · next hc0 =>
            cases hcal
            obtain ⟨hci, hlen9, hcat⟩ := hc0
            obtain ⟨rfl, rfl, ⟨hcls, hpl, h22, hcode⟩, hws, hdesc, -, -⟩ := ml_ok hml9
            have hrun : va_Run p l e R s m args below meth c H locs cn sn mr'.2.2.2.2.1 mr'.2.2.2.2.2.1 (F0 m pc ls (S.map (cV G))) (r.map (cV G)) (fun st oc t => oc = .returned (v.map (cV G)) ∧ HW G D tyc M' t.heap ∧ va_F (AB G) st t) (AB G) := by
              refine va_runV (Ts := gtbl) (C := mr'.1.cls) (b := G.1 + q) (As := (S.take na).reverse.map (cV G)) ⟨hx, hb, hml, hown, hts⟩ hM (cwV na hts (good_g (fun w hw => ?_)) rfl rfl rfl ⟨rfl, hdesc⟩ (hroom h22)) ⟨blind, ?_, fun U hU hW => ?_⟩ rfl ?_ hl.1 ?_ ?_ hd ⟨by omega, by omega⟩
              · rcases List.mem_append.mp hw with h | h
                · exact hws w h
                · rcases List.mem_cons.mp h with h | h
                  · rw [h]; exact hcode
                  · exact h
              · obtain ⟨rr, hr1, -⟩ := hH.2 q _ (ty_o hMq)
                have hrec := va_recv hK hH.2 hr1 (ty_o hMq)
                rw [cls_own hr1, hci, ← hcls] at hrec
                exact hrec
              · exact hpre U hU hW
              · rw [List.length_map, List.length_reverse]; exact hlen9
              · rw [split9 na hlen9, hdrop]; rfl
              · show 2 * 0 + ((r.map (cV G)).map fun v => v.category).sum ≤ 8
                rw [cat_sum]; omega
            exact v_call hrun hS fin
          · cases hcal
        · cases hcal
      · cases hcal
    · cases hcal
  · next k =>
    simp only [lenOK, beq_iff_eq] at hlen; subst hlen
    split at hcal
    · next oc' idx' na mrr ps hml9 =>
      split at hcal
      · next hc0 =>
        cases hcal
        obtain ⟨hlen9, hcat⟩ := hc0
        obtain ⟨rfl, rfl, ⟨hcls, hpl, h22, hcode⟩, hws, hdesc, -, -⟩ := ml_ok hml9
        have hrun : va_Run p l e R s m args below meth c H locs cn sn mr'.2.2.2.2.1 mr'.2.2.2.2.2.1 (F0 m pc ls (S.map (cV G))) ((S.drop na).map (cV G)) (fun st oc t => oc = .returned (v.map (cV G)) ∧ HW G D tyc M' t.heap ∧ va_F (AB G) st t) (AB G) := by
          refine va_runS (Ts := gtbl) (As := (S.take na).reverse.map (cV G)) ⟨hx, hb, hml, hown, hts⟩ hM (va_cwS na hts (good_g (fun w hw => ?_)) rfl rfl rfl hdesc (hroom h22)) ⟨blind, fun U hU hW => ?_⟩ rfl ?_ hl.1 ?_ ?_ hd ⟨by omega, by omega⟩
          · rcases List.mem_append.mp hw with h | h
            · exact hws w h
            · rcases List.mem_cons.mp h with h | h
              · rw [h]; exact hcode
              · exact h
          · exact hpre U hU hW
          · rw [List.length_map, List.length_reverse]; exact hlen9
          · rw [split9 na hlen9]
          · show 2 * 0 + (((S.drop na).map (cV G)).map fun v => v.category).sum ≤ 8
            rw [cat_sum]; omega
        exact v_call hrun hS fin
      · cases hcal
    · cases hcal
  · next k =>
    simp only [lenOK, beq_iff_eq] at hlen; subst hlen
    split at hcal
    · next oc' idx' kind na mrr ps hml9 =>
      split at hcal
      · next hkind =>
        split at hcal
        · next q r9 hdrop =>
          split at hcal
          · next hc0 =>
            cases hcal
            obtain ⟨hlen9, hcat⟩ := hc0
            obtain ⟨rfl, rfl, ⟨hcls, hpl, h22, hcode⟩, hws, hdesc, hini, hnest⟩ := ml_ok hml9
            have hgood : GoodIn gtbl (Cond.code mr'.1 mr'.2.1 mr'.2.2.1 mr'.2.2.2.1 :: gtbl) := good_g (fun w hw => by
              rcases List.mem_cons.mp hw with h | h
              · rw [h]; exact hcode
              · exact h)
            have hret : mr'.2.2.2.1 = none := (hini hkind).2
            have hrun : va_Run p l e R s m args below meth c H locs cn sn mr'.2.2.2.2.1 mr'.2.2.2.2.2.1 (F0 m pc ls (S.map (cV G))) (r.map (cV G)) (fun st oc t => oc = .returned (v.map (cV G)) ∧ HW G D tyc M' t.heap ∧ va_F (AB G) st t) (AB G) := by
              unfold MetOf at hM
              rw [hret] at hM hgood
              rcases hkind with rfl | rfl
              · refine va_runI (Ts := gtbl) (b := G.1 + q) (As := (S.take na).reverse.map (cV G)) ⟨hx, hb, hml, hown, hts⟩ hM ⟨callB_of na hts hgood rfl rfl rfl (hts _ (hws _ (by simp [mlW]))) (hts _ (hws _ (by simp [mlW]))) hdesc (hroom h22), (hini (Or.inl rfl)).1, hts _ (hws _ (by simp [mlW]))⟩ ⟨blind, fun U hU hW => ?_⟩ rfl ?_ hl.1 ?_ ?_ hd ⟨by omega, by omega⟩
                · exact hpre U hU hW
                · rw [List.length_map, List.length_reverse]; exact hlen9
                · rw [split9 na hlen9, hdrop]; rfl
                · show 2 * 0 + ((r.map (cV G)).map fun v => v.category).sum ≤ 8
                  rw [cat_sum]; omega
              · refine va_runIN (Ts := gtbl) (b := G.1 + q) (As := (S.take na).reverse.map (cV G)) ⟨hx, hb, hml, hown, hts⟩ hM ⟨va_cnB na hts hgood rfl rfl rfl (hSt.2.1 _ (hnest rfl)) (hts _ (hws _ (by simp [mlW]))) hdesc (hroom h22), (hini (Or.inr rfl)).1, hts _ (hws _ (by simp [mlW]))⟩ ⟨blind, fun U hU hW => ?_⟩ rfl ?_ hl.1 ?_ ?_ hd ⟨by omega, by omega⟩
                · exact hpre U hU hW
                · rw [List.length_map, List.length_reverse]; exact hlen9
                · rw [split9 na hlen9, hdrop]; rfl
                · show 2 * 0 + ((r.map (cV G)).map fun v => v.category).sum ≤ 8
                  rw [cat_sum]; omega
            exact v_call hrun hS fin
          · cases hcal
        · cases hcal
      · cases hcal
    · cases hcal
  · cases hcal
end SoundR
