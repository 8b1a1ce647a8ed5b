section SoundN
variable {p : Program} {l : Launch} {e : Env} {R : Room} {s : State} {m : MethodId} {args : Array Value} {below : List Frame} {meth : Method} {c : Code} {H : Heap} {locs : List Loc} {Q : State → Prop}
variable {mr : MRec} {G : GB} {D : va_G} {tyc : Nat → ClassId} {X : AX} {d : Nat} {pc pc' : Nat} {L L' : AL} {S S' : List AV} {M M' : AM} {cn sn cn' sn' : Nat} {ls : Array Slot}
theorem hw_new {ee : AE} {H1 : Heap} (hH : HW G D tyc M H) (z1 : H1.size = H.size + 1) (o1 : ∀ q : Nat, q < H.size → H1[q]? = H[q]?) (ha : va_at D clsT (G.1 + M.length, cE G tyc ee) H1) : HW G D tyc (M ++ [ee]) H1 := by
  refine ⟨by rw [z1, hH.1, List.length_append]; rfl, ?_⟩
  rw [cW_app]
  refine va_P.app (fun k x hx => (hH.2 k x hx).kept (o1 _ (hH.2 k x hx).lt)) (fun k x hx => ?_)
  have hz : k < 1 := (List.getElem?_eq_some_iff.mp hx).1
  rw [show k = 0 by omega] at hx
  cases hx
  exact ha
theorem s_new {H1 : Heap} (hS : va_S (AB G) s.heap H locs) (z1 : H1.size = H.size + 1) (o1 : ∀ q : Nat, q < H.size → H1[q]? = H[q]?) : va_S (AB G) s.heap H1 locs :=
  ⟨Nat.le_trans hS.1 (by omega), fun x h1 h2 => (o1 x (Nat.lt_of_lt_of_le h1 hS.1)).trans (hS.2.1 x h1 h2), hS.2.2⟩
theorem dfl_ok (ty : FieldType) : (∃ z, ty = .byte ∨ ty = .char ∨ ty = .short ∨ ty = .float ∨ ty = .double ∨ z = 0) ∨ cV G (dflV ty) = defaultValue ty := by
  cases ty <;> first | exact Or.inr rfl | exact Or.inl ⟨0, by simp⟩
def tyOK (ty : FieldType) : Bool := match ty with
  | .int | .boolean | .long | .object _ | .array _ => true
  | _ => false
theorem dfl_eq {ty : FieldType} (h : tyOK ty = true) : cV G (dflV ty) = defaultValue ty := by
  cases ty <;> first | rfl | (simp [tyOK] at h)
theorem tyT_ok : ∀ ci, ci < 12 → ∀ j, j < fszT ci → tyOK (tyT ci j) = true := by decide +kernel
set_option maxHeartbeats 4000000 in
theorem so_new (C : Cx p R s m args meth c mr G D tyc X d) {ins : Instr} {len : Nat} (hd : decode mr.2.1 pc = .ok (ins, len)) (hlen : lenOK ins len = true)
    (hi : (∃ k, ins = .newarray k) ∨ (∃ k, ins = .anewarray k) ∨ (∃ k, ins = .new k))
    (h : stp X mr d ins pc L S M cn sn = some (pc', L', S', M', cn', sn')) (hH : HW G D tyc M H) (hS : va_S (AB G) s.heap H locs) (hl : lh G ls mr.2.2.1 L)
    (K : KK p l e R s m args below meth c Q mr G D tyc pc' L' S' M' cn' sn') : W p l e R s m args below meth c H locs cn sn Q (F0 m pc ls (S.map (cV G))) := by
  obtain ⟨hx, hb, hml, hown, hts, ⟨hK, hnest, hao1, hao2, hZ, hT, hX, hsb, hbs, hXl⟩, hnm, hfr, hlo, hmc, hms⟩ := C
  have tL : ∀ x : Int, 0 ≤ x → x ≤ 100000 → ¬ Int32.ofInt x < 0 ∧ (Int32.ofInt x).toNatClampNeg = x.toNat := fun x a b => by
    have e1 : (Int32.ofInt x).toInt = x := Int32.toInt_ofInt_of_le (by omega) (by omega)
    refine ⟨fun q => ?_, by rw [Int32.toNatClampNeg, e1]⟩
    rw [Int32.lt_iff_toInt_lt, e1] at q
    simp at q
    omega
  rcases hi with ⟨k, rfl⟩ | ⟨k, rfl⟩ | ⟨k, rfl⟩
  all_goals (simp only [lenOK, beq_iff_eq] at hlen; subst hlen)
  all_goals simp only [stp] at h
  · split at h
    · next n r =>
      split at h
      · next hc0 =>
        obtain ⟨z1, z2, z3, z4⟩ := hc0
        obtain ⟨t1, t2⟩ := tL n z1 z2
        cases k <;> simp only at h
        all_goals try (cases h; done)
        · simp only [Option.some.injEq, Prod.mk.injEq] at h; obtain ⟨rfl, rfl, rfl, rfl, rfl, rfl⟩ := h
          refine va_newaK (atype := .boolean) hx hb (hts _ (in_g w_aZ rfl)) rfl hd rfl t1 t2 (by show n.toNat * 1 ≤ _; omega) (by omega) (by omega) rfl fun H1 cA e1 z1 o1 hAr hNm => ?_
          have hcA : cA = tyc 2 := Option.some.inj (hNm.symm.trans (hK.2 2 _ rfl).2)
          subst hcA
          rw [hH.1]
          exact K H1 locs ls (hw_new hH z1 o1 (by rw [← hH.1]; exact e1)) (s_new hS z1 o1) hl
        · simp only [Option.some.injEq, Prod.mk.injEq] at h; obtain ⟨rfl, rfl, rfl, rfl, rfl, rfl⟩ := h
          refine va_newaK (atype := .int) hx hb (hts _ (in_g w_aI rfl)) rfl hd rfl t1 t2 (by show n.toNat * 4 ≤ _; omega) (by omega) (by omega) rfl fun H1 cA e1 z1 o1 hAr hNm => ?_
          have hcA : cA = tyc 0 := Option.some.inj (hNm.symm.trans (hK.2 0 _ rfl).2)
          subst hcA
          rw [hH.1]
          exact K H1 locs ls (hw_new hH z1 o1 (by rw [← hH.1]; exact e1)) (s_new hS z1 o1) hl
        · simp only [Option.some.injEq, Prod.mk.injEq] at h; obtain ⟨rfl, rfl, rfl, rfl, rfl, rfl⟩ := h
          refine va_newaK (atype := .long) hx hb (hts _ (in_g w_aJ rfl)) rfl hd rfl t1 t2 (by show n.toNat * 8 ≤ _; omega) (by omega) (by omega) rfl fun H1 cA e1 z1 o1 hAr hNm => ?_
          have hcA : cA = tyc 1 := Option.some.inj (hNm.symm.trans (hK.2 1 _ rfl).2)
          subst hcA
          rw [hH.1]
          exact K H1 locs ls (hw_new hH z1 o1 (by rw [← hH.1]; exact e1)) (s_new hS z1 o1) hl
      · cases h
    · cases h
  · split at h
    · next n r =>
      split at h
      · next ci t han =>
        split at h
        · next hc0 =>
          obtain ⟨z1, z2, z3, z4⟩ := hc0
          obtain ⟨t1, t2⟩ := tL n z1 z2
          simp only [Option.some.injEq, Prod.mk.injEq] at h; obtain ⟨rfl, rfl, rfl, rfl, rfl, rfl⟩ := h
          obtain ⟨CC, hlk, hCC⟩ := anc_ok han
          have key : ∀ (tt : Nat) (cl : String), (tysOf tyc)[tt]? = some (tyc tt, .object cl) → CC = cl → t = tt → va_AO cl s → W p l e R s m args below meth c H locs cn sn Q (F0 m pc ls ((iv n :: r).map (cV G))) := by
            intro tt cl htt e1 e2 hao
            subst e1
            subst e2
            refine W.anew hx hb hown (hts _ hlk) (va_AO.use hao) rfl hd rfl t1 (by rw [t2]; omega) (by omega) (by rw [t2]; omega) fun cA kA comp f1 f2 f3 f4 => ?_
            obtain ⟨-, -, -, -, -, hfc⟩ := (hK.2 t _ htt).2
            have hcA : cA = tyc t := Option.some.inj (f1.symm.trans hfc)
            subst hcA
            have z9 : (H.push ({ cls := tyc t, slots := Array.replicate (Int32.ofInt n).toNatClampNeg .null, vm := .none } : Cell)).size = H.size + 1 := by rw [Array.size_push]
            have o9 : ∀ q : Nat, q < H.size → (H.push ({ cls := tyc t, slots := Array.replicate (Int32.ofInt n).toNatClampNeg .null, vm := .none } : Cell))[q]? = H[q]? := fun q hq => by rw [Array.getElem?_push, if_neg (Nat.ne_of_lt hq)]
            have e9 : (H.push ({ cls := tyc t, slots := Array.replicate (Int32.ofInt n).toNatClampNeg .null, vm := .none } : Cell))[H.size]? = some (arrV (tyc t) n.toNat (fun _ => .null)) := by rw [Array.getElem?_push_size, ← arrV_new, t2]
            have := K _ locs ls (hw_new (ee := .inl (t, n.toNat, .inr (.inr (fun _ => none)))) hH z9 o9 (by rw [← hH.1]; exact e9)) (s_new hS z9 o9) hl
            rw [t2] at this ⊢
            rw [hH.1]
            exact this
          rcases hCC with ⟨e1, e2⟩ | ⟨e1, e2⟩
          · exact key 3 "GiftMatch$Rule" rfl e1 e2 hao1
          · exact key 4 "GiftMatch$Scene" rfl e1 e2 hao2
        · cases h
      · cases h
    · cases h
  · split at h
    · next ci hnw =>
      split at h
      · next hc0 =>
        obtain ⟨z3, z4⟩ := hc0
        simp only [Option.some.injEq, Prod.mk.injEq] at h; obtain ⟨rfl, rfl, rfl, rfl, rfl, rfl⟩ := h
        obtain ⟨CC, T, N, hc, hlk, hin, hii⟩ := nwc_ok hnw
        have hN : fszT ci = N := by unfold fszT; rw [hc]
        have hKn := hK.1 ci _ hc
        have hu := u_in hc
        have hci : ci < 12 := (List.getElem?_eq_some_iff.mp hc).1
        rw [hN] at z4
        refine W.newcK hx hb hown (hts _ hlk) (hts _ hin) (hts _ hii) rfl hd (by omega) (by omega) hKn.2.1 rfl fun H1 kC hkC e1 z1 o1 => ?_
        have hat : va_at D clsT (G.1 + M.length, cE G tyc (.inr (ci, dfl ci))) H1 := by
          rw [← hH.1]
          refine ⟨_, hc, (u_born (tyT ci) hts hu.1 hKn hkC e1 hu.2.1).to (fun j hj => ?_)⟩
          have hj2 : j < fszT ci := by rw [hN]; exact hj
          rw [← dfl_eq (G := G) (tyT_ok ci hci j hj2)]
          unfold vp_V dfl
          rw [List.getD_eq_getElem?_getD, List.getElem?_map, List.getElem?_map, List.getElem?_range hj2]
          rfl
        have := K H1 locs ls (hw_new hH z1 o1 hat) (s_new hS z1 o1) hl
        rw [hN] at this
        rw [hH.1]
        exact this
      · cases h
    · cases h
end SoundN
