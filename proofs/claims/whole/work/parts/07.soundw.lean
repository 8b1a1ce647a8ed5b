section SoundW
variable {p : Program} {l : Launch} {e : Env} {R : Room} {s : State} {m : MethodId} {args : Array Value} {below : List Frame} {meth : Method} {c : Code} {H : Heap} {locs : List Loc} {Q : State → Prop}
variable {mr : MRec} {G : GB} {D : va_G} {tyc : Nat → ClassId} {X : AX} {d : Nat} {pc pc' : Nat} {L L' : AL} {S S' : List AV} {M M' : AM} {cn sn cn' sn' : Nat} {ls : Array Slot}
theorem W_size {g : JFrame} (k : H.size ≤ s.heap.size + cn → W p l e R s m args below meth c H locs cn sn Q g) : W p l e R s m args below meth c H locs cn sn Q g := by
  intro T hT X
  have h := X.same.2.2.1
  have e : (T.setVm s.vm).heap = H := hT
  rw [e] at h
  exact k h T hT X
theorem hw_up {q : Nat} {ee e0 : AE} {H1 : Heap} (hq : M[q]? = some e0) (hz : s.heap.size + cn = G.1 + M.length) (h9 : H1.size ≤ s.heap.size + cn) (h : va_P D clsT ((cW G tyc M).set q (G.1 + q, cE G tyc ee)) H1) : HW G D tyc (M.set q ee) H1 := by
  rw [cW_set] at h
  refine ⟨?_, h⟩
  rw [List.length_set]
  have hl : 0 < M.length := Nat.lt_of_le_of_lt (Nat.zero_le _) (List.getElem?_eq_some_iff.mp hq).1
  have h1 : M.length - 1 < (M.set q ee).length := by rw [List.length_set]; omega
  have h2 := (h (M.length - 1) _ (cW_get (List.getElem?_eq_getElem h1))).lt
  simp only at h2
  omega
set_option maxHeartbeats 4000000 in
theorem so_write (C : Cx p R s m args meth c mr G D tyc X d) {ins : Instr} {len : Nat} (hd : decode mr.2.1 pc = .ok (ins, len)) (hlen : lenOK ins len = true) (hz : s.heap.size + cn = G.1 + M.length)
    (hi : (∃ k, ins = .putfield k) ∨ ins = .iastore ∨ ins = .lastore ∨ ins = .bastore ∨ ins = .aastore ∨ (∃ k, ins = .invokespecial k) ∨ (∃ k, ins = .invokestatic k))
    (h : stp X mr d ins pc L S M cn sn = some (pc', L', S', M', cn', sn')) (hH : HW G D tyc M H) (hS : va_S (AB G) s.heap H locs) (hl : lh G ls mr.2.2.1 L)
    (K : KK p l e R s m args below meth c Q mr G D tyc pc' L' S' M' cn' sn') : W p l e R s m args below meth c H locs cn sn Q (F0 m pc ls (S.map (cV G))) := by
  obtain ⟨hx, hb, hml, hown, hts, ⟨hK, hnest, hao1, hao2, hZ, hT, hX, hsb, hbs, hXl⟩, hnm, hfr, hlo, hmc, hms⟩ := C
  rcases hi with ⟨k, rfl⟩ | rfl | rfl | rfl | rfl | ⟨k, rfl⟩ | ⟨k, rfl⟩
  all_goals (simp only [lenOK, beq_iff_eq] at hlen; subst hlen)
  all_goals simp only [stp] at h
  · split at h
    · next v q r =>
      split at h
      · next ci j hf =>
        split at h
        · next ci' fs hM =>
          split at h
          · next hc0 =>
            obtain ⟨rfl, hj2, hok, hfin⟩ := hc0
            simp only [Option.some.injEq, Prod.mk.injEq] at h; obtain ⟨rfl, rfl, rfl, rfl, rfl, rfl⟩ := h
            obtain ⟨CC, T, N, hc, hj, hlk, hpd⟩ := fld_ok hf
            have hu := u_in hc
            have hE : (G.1 + q, Sum.inr (ci', (fs.map (cV G)).set j (cV G v))) = ((G.1 + q, cE G tyc (.inr (ci', fs.set j v))) : Nat × va_E) := by
              simp only [cE, List.map_set]
            cases hf2 : (T j).2.2.2 with
            | false =>
              refine va_put (D := D) (ci := ci') (v := cV G v) (ty := tyT ci' j) (C := CC) (T := T) (N := N) hx hb hts hu.1 (tyT ci') hu.2.1 hu.2.2 hown hK hH.2 cW_D hS q (ty_o hM) hc j hj (hts _ hlk) (fun _ h9 => h9) hf2 hpd (okv_ok hok).1 (okv_ok hok).2 (by rw [List.length_map]; exact hj2) hd (fun H1 locs1 hP1 _ hS1 => ?_)
              rw [hE] at hP1
              exact W_size fun h9 => K H1 locs1 ls (hw_up hM hz h9 hP1) hS1 hl
            | true =>
              have hfn := hfin (by unfold finT; rw [hc]; exact hf2)
              have hdc : (T j).1 = own mr.2.2.2.2.2.2 := by rw [← hfn.2]; unfold decT; rw [hc]
              refine va_putF (D := D) (ci := ci') (v := cV G v) (ty := tyT ci' j) (C := CC) (T := T) (N := N) hx hb hts hu.1 (tyT ci') hu.2.1 hu.2.2 hown hK hH.2 cW_D hS q (ty_o hM) hc j hj (hts _ hlk) (fun _ h9 => h9) hf2 (hnm hfn.1) hdc hpd (okv_ok hok).1 (okv_ok hok).2 (by rw [List.length_map]; exact hj2) hd (fun H1 locs1 hP1 _ hS1 => ?_)
              rw [hE] at hP1
              exact W_size fun h9 => K H1 locs1 ls (hw_up hM hz h9 hP1) hS1 hl
          · cases h
        · cases h
      · cases h
    · cases h
  · split at h
    · next x i q r =>
      split at h
      · next n f hM =>
        split at h
        · next hin =>
          simp only [Option.some.injEq, Prod.mk.injEq] at h; obtain ⟨rfl, rfl, rfl, rfl, rfl, rfl⟩ := h
          refine va_iast hx hb hK hH.2 cW_D hS q 0 (ty_i hM) rfl (inA_ok hin).1 hd (fun H1 locs1 hP1 _ hS1 => ?_)
          rw [up_i (inA_ok hin).2] at hP1
          exact W_size fun h9 => K H1 locs1 ls (hw_up hM hz h9 hP1) hS1 hl
        · cases h
      · cases h
    · cases h
  · split at h
    · next x i q r =>
      split at h
      · next n f hM =>
        split at h
        · next hin =>
          simp only [Option.some.injEq, Prod.mk.injEq] at h; obtain ⟨rfl, rfl, rfl, rfl, rfl, rfl⟩ := h
          refine va_last hx hb hK hH.2 cW_D hS q 1 (ty_l hM) rfl (inA_ok hin).1 hd (fun H1 locs1 hP1 _ hS1 => ?_)
          rw [up_l (inA_ok hin).2] at hP1
          exact W_size fun h9 => K H1 locs1 ls (hw_up hM hz h9 hP1) hS1 hl
        · cases h
      · cases h
    · cases h
  · split at h
    · next x i q r =>
      split at h
      · next n f hM =>
        split at h
        · next hin =>
          simp only [Option.some.injEq, Prod.mk.injEq] at h; obtain ⟨rfl, rfl, rfl, rfl, rfl, rfl⟩ := h
          refine va_zast hx hb hK hH.2 cW_D hS q 2 (ty_i hM) rfl (inA_ok hin.1).1 hd (fun H1 locs1 hP1 _ hS1 => ?_)
          have e0 : vp_nar .boolean (Int32.ofInt x) = Int32.ofInt x := by rcases hin.2 with rfl | rfl <;> decide +kernel
          rw [e0, up_i (inA_ok hin.1).2] at hP1
          exact W_size fun h9 => K H1 locs1 ls (hw_up hM hz h9 hP1) hS1 hl
        · cases h
      · cases h
    · cases h
  · split at h
    · next v i q r =>
      split at h
      · next t n f ci fs hM hM2 =>
        split at h
        · next hin =>
          simp only [Option.some.injEq, Prod.mk.injEq] at h; obtain ⟨rfl, rfl, rfl, rfl, rfl, rfl⟩ := h
          rcases hin.2 with ⟨rfl, rfl⟩ | ⟨rfl, rfl⟩
          · refine va_astq (r := (RX7, TX7, 5)) hx hb hK hH.2 cW_D hS q 3 v 7 (ty_q hM) rfl (ty_o hM2) rfl (inA_ok hin.1).1 hd (fun H1 locs1 hP1 _ hS1 => ?_)
            rw [up_q (inA_ok hin.1).2] at hP1
            exact W_size fun h9 => K H1 locs1 ls (hw_up hM hz h9 hP1) hS1 hl
          · refine va_astq (r := (RX8, TX8, 12)) hx hb hK hH.2 cW_D hS q 4 v 8 (ty_q hM) rfl (ty_o hM2) rfl (inA_ok hin.1).1 hd (fun H1 locs1 hP1 _ hS1 => ?_)
            rw [up_q (inA_ok hin.1).2] at hP1
            exact W_size fun h9 => K H1 locs1 ls (hw_up hM hz h9 hP1) hS1 hl
        · cases h
      · cases h
    · cases h
  · split at h
    · next q r =>
      split at h
      · next z hsp =>
        split at h
        · next hc0 =>
          simp only [Option.some.injEq, Prod.mk.injEq] at h; obtain ⟨rfl, rfl, rfl, rfl, rfl, rfl⟩ := h
          have hlk : Cond.methodLink (own mr.2.2.2.2.2.2) k objectInit ∈ gtbl := sp_ok hsp
          exact W.objInit hx hb hown (hts _ hlk) (hts _ (in_g w_oi rfl)) (hts _ (in_g w_oc rfl)) rfl (by rw [hml]; exact hl.1) rfl hd (by omega) (by
            show 2 * 0 + ((r.map (cV G)).map fun v => v.category).sum + 12 ≤ R.locals
            rw [cat_sum]
            omega) (K H locs ls hH hS hl)
        · cases h
      · cases h
    · cases h
  · split at h
    · next z hsp =>
      split at h
      · next y x r =>
        split at h
        · next hc0 =>
          simp only [Option.some.injEq, Prod.mk.injEq] at h; obtain ⟨rfl, rfl, rfl, rfl, rfl, rfl⟩ := h
          obtain ⟨z1, z2, z3, z4⟩ := hc0
          refine va_mmax hx hb (by rw [hml]; exact hl.1.symm) hown (hts _ (sp_ok hsp)) (hts _ (in_g w_smax rfl)) (hts _ (in_g w_mi rfl)) (hts _ (in_g w_cmax rfl)) (by omega) (by rw [cat_sum]; omega) (by omega) (by omega) hd ?_
          have := K H locs ls hH hS hl
          simp only [List.map_cons, cV, apply_ite Int32.ofInt] at this
          exact this
        · cases h
      · cases h
    · next z hsp =>
      split at h
      · next y x r =>
        split at h
        · next hc0 =>
          simp only [Option.some.injEq, Prod.mk.injEq] at h; obtain ⟨rfl, rfl, rfl, rfl, rfl, rfl⟩ := h
          obtain ⟨z1, z2, z3, z4⟩ := hc0
          refine va_mmin hx hb (by rw [hml]; exact hl.1.symm) hown (hts _ (sp_ok hsp)) (hts _ (in_g w_smin rfl)) (hts _ (in_g w_mi rfl)) (hts _ (in_g w_cmin rfl)) (by omega) (by rw [cat_sum]; omega) (by omega) (by omega) hd ?_
          have := K H locs ls hH hS hl
          simp only [List.map_cons, cV, apply_ite Int32.ofInt] at this
          exact this
        · cases h
      · cases h
    · next z hsp =>
      split at h
      · next y x r =>
        split at h
        · next hc0 =>
          simp only [Option.some.injEq, Prod.mk.injEq] at h; obtain ⟨rfl, rfl, rfl, rfl, rfl, rfl⟩ := h
          obtain ⟨z1, z2, z3, z4⟩ := hc0
          refine va_mmax_long hx hb (by rw [hml]; exact hl.1.symm) hown (hts _ (sp_ok hsp)) (hts _ (in_g w_smaxl rfl)) (hts _ (in_g w_mi rfl)) (hts _ (in_g w_cmaxl rfl)) (by omega) (by rw [cat_sum]; omega) (by omega) (by omega) hd ?_
          have := K H locs ls hH hS hl
          simp only [List.map_cons, cV] at this
          exact this
        · cases h
      · cases h
    · next z hsp =>
      split at h
      · next y x r =>
        split at h
        · next hc0 =>
          simp only [Option.some.injEq, Prod.mk.injEq] at h; obtain ⟨rfl, rfl, rfl, rfl, rfl, rfl⟩ := h
          obtain ⟨z1, z2, z3, z4⟩ := hc0
          refine va_mmin_long hx hb (by rw [hml]; exact hl.1.symm) hown (hts _ (sp_ok hsp)) (hts _ (in_g w_sminl rfl)) (hts _ (in_g w_mi rfl)) (hts _ (in_g w_cminl rfl)) (by omega) (by rw [cat_sum]; omega) (by omega) (by omega) hd ?_
          have := K H locs ls hH hS hl
          simp only [List.map_cons, cV] at this
          exact this
        · cases h
      · cases h
    · next z hsp =>
      split at h
      · next n dp q sp0 q0 r =>
        split at h
        · next n0 f n1 g hM0 hM1 =>
          split at h
          · next hc0 =>
            simp only [Option.some.injEq, Prod.mk.injEq] at h; obtain ⟨rfl, rfl, rfl, rfl, rfl, rfl⟩ := h
            obtain ⟨z1, z2, z3, z4, z5, z6, z7, z8, z9⟩ := hc0
            have hlk : Cond.methodLink (own mr.2.2.2.2.2.2) k arraycopyName ∈ gtbl := sp_ok hsp
            have tI : ∀ x : Int, 0 ≤ x → x < 2147483648 → (Int32.ofInt x).toInt = x := fun x a b => Int32.toInt_ofInt_of_le (by omega) (by omega)
            have tN : ∀ x : Int, 0 ≤ x → x < 2147483648 → (((Int32.ofInt x).toNatClampNeg : Nat) : Int) = x := fun x a b => by rw [Int32.toNatClampNeg, tI x a b]; omega
            have tL : ∀ x : Int, 0 ≤ x → x < 2147483648 → ¬ Int32.ofInt x < 0 := fun x a b q => by
              rw [Int32.lt_iff_toInt_lt, tI x a b] at q
              simp at q
              omega
            have t1 := tN n z1 (by omega)
            have t2 := tN dp z2 (by omega)
            have t3 := tN sp0 z3 (by omega)
            refine va_copyi (ty := .int) hx hb (by rw [hml]; exact hl.1.symm) hown (hts _ hlk) (hts _ (in_g w_acn rfl)) (hts _ (in_g w_acs rfl)) (hts _ (in_g w_aci rfl)) hK hH.2 cW_D hS q0 q 0 0 (ty_i hM0) (ty_i hM1) rfl rfl rfl (tL _ z3 (by omega)) (tL _ z2 (by omega)) (tL _ z1 (by omega)) (by omega) (by omega) (fun _ _ => rfl) (by omega) (by
              rw [cat_sum]
              have : nativeFrameWords "java/lang/System" "arraycopy" 5 + 11 ≤ 33 := by decide +kernel
              omega) hd (fun H1 locs1 hP1 _ hS1 => ?_)
            have e5 : va_cpy (fun j : Nat => Int32.ofInt (f j)) (fun j : Nat => Int32.ofInt (g j)) (Int32.ofInt sp0).toNatClampNeg (Int32.ofInt dp).toNatClampNeg (Int32.ofInt n).toNatClampNeg = (fun j : Nat => Int32.ofInt (cpyA f g sp0 dp n j)) := by
              funext j
              unfold va_cpy cpyA
              by_cases hj : (Int32.ofInt dp).toNatClampNeg ≤ j ∧ j < (Int32.ofInt dp).toNatClampNeg + (Int32.ofInt n).toNatClampNeg
              · rw [if_pos hj, if_pos (by omega)]
                have e6 : (((Int32.ofInt sp0).toNatClampNeg + (j - (Int32.ofInt dp).toNatClampNeg) : Nat) : Int) = sp0 + ((j : Int) - dp) := by omega
                show Int32.ofInt (f (((Int32.ofInt sp0).toNatClampNeg + (j - (Int32.ofInt dp).toNatClampNeg) : Nat) : Int)) = _
                rw [e6]
              · rw [if_neg hj, if_neg (by omega)]
            rw [e5] at hP1
            exact W_size fun h9 => K H1 locs1 ls (hw_up hM1 hz h9 hP1) hS1 hl
          · cases h
        · cases h
      · cases h
    · cases h
end SoundW
