theorem run_mono {X : AX} : ∀ (n : Nat) {m d : Nat} {mr : MRec} {pc : Nat} {L : AL} {S : List AV} {M : AM} {c s : Nat} {r : Option AV × AM}, run X n d mr pc L S M c s = some r → n ≤ m → run X m d mr pc L S M c s = some r := by
  intro n
  induction n with
  | zero => intro m d mr pc L S M c s r h; cases h
  | succ n ih =>
    intro m d mr pc L S M c s r h hm
    match m, hm with
    | m + 1, hm =>
      have hm' : n ≤ m := by omega
      unfold run at h ⊢
      split at h
      · next ins len hd =>
        try rw [hd]
        try simp only
        split at h
        · next hlen =>
          try rw [if_pos hlen]
          split at h
          · next v hr => first | exact h | (rw [hr]; exact h)
          · next hr =>
            try rw [hr]
            try simp only
            split at h
            · next pc' L' S' M' c' s' hs => first | exact ih h hm' | (rw [hs]; exact ih h hm')
            · next hs =>
              try rw [hs]
              try simp only
              split at h
              · next mr' As r' hc =>
                try rw [hc]
                try simp only
                split at h
                · cases h
                · next d' =>
                  split at h
                  · next hcc =>
                    try rw [if_pos hcc]
                    split at h
                    · next v M' hrun =>
                      rw [ih hrun hm']
                      exact ih h hm'
                    · cases h
                  · cases h
              · cases h
        · cases h
      · cases h
/-- the interpreter comes to a return, with Q -/
def Ev (X : AX) (c s d : Nat) (mr : MRec) (pc : Nat) (L : AL) (S : List AV) (σ : SG) (Q : Option AV → SG → Prop) : Prop := ∃ (n : Nat) (v : Option AV) (σ' : SG), run X n d mr pc L S (mem σ) c s = some (v, mem σ') ∧ Q v σ'
section EV
variable {X : AX} {c s d : Nat} {mr : MRec} {pc pc' : Nat} {L L' : AL} {S S' : List AV} {σ σ' : SG} {Q : Option AV → SG → Prop}
theorem Ev.imp {Q' : Option AV → SG → Prop} (h : Ev X c s d mr pc L S σ Q) (hq : ∀ v σ', Q v σ' → Q' v σ') : Ev X c s d mr pc L S σ Q' := by
  obtain ⟨n, v, σ2, a, b⟩ := h
  exact ⟨n, v, σ2, a, hq _ _ b⟩
theorem e_stp {ins : Instr} {len : Nat} (hd : decode mr.2.1 pc = .ok (ins, len)) (hlen : lenOK ins len = true) (hr : rtn mr ins S = none) (hs : stp X mr d ins pc L S (mem σ) c s = some (pc', L', S', mem σ', c, s)) (K : Ev X c s d mr pc' L' S' σ' Q) : Ev X c s d mr pc L S σ Q := by
  obtain ⟨n, v, σ2, h, q⟩ := K
  refine ⟨n + 1, v, σ2, ?_, q⟩
  unfold run
  rw [hd]
  simp only [hlen, if_true, hr, hs]
  exact h
def rg (x : Int) : Prop := -2147483648 ≤ x ∧ x ≤ 2147483647
theorem rg_to {x : Int} (h : rg x) : (Int32.ofInt x).toInt = x := Int32.toInt_ofInt_of_le (by have := h.1; omega) (by have := h.2; omega)
theorem rg_lt {x y : Int} (hx : rg x) (hy : rg y) : Int32.ofInt x < Int32.ofInt y ↔ x < y := by rw [Int32.lt_iff_toInt_lt, rg_to hx, rg_to hy]
theorem rg_le {x y : Int} (hx : rg x) (hy : rg y) : Int32.ofInt x ≤ Int32.ofInt y ↔ x ≤ y := by rw [Int32.le_iff_toInt_le, rg_to hx, rg_to hy]
theorem rg_eq {x y : Int} (hx : rg x) (hy : rg y) : Int32.ofInt x = Int32.ofInt y ↔ x = y := by rw [← Int32.toInt_inj, rg_to hx, rg_to hy]
theorem e_iload_n {k : Fin 4} {z : Int} (hd : decode mr.2.1 pc = .ok (.iload_n k, 1)) (hp : pc + 1 = pc') (hl : L[(k : Nat)]? = some (some (iv z))) (K : Ev X c s d mr pc' L (iv z :: S) σ Q) : Ev X c s d mr pc L S σ Q := by
  subst hp; exact e_stp hd rfl rfl (by simp only [stp, ldI, hl, Option.map_some]) K
theorem e_iload {k : Nat} {z : Int} (hd : decode mr.2.1 pc = .ok (.iload k, 2)) (hp : pc + 2 = pc') (hl : L[k]? = some (some (iv z))) (K : Ev X c s d mr pc' L (iv z :: S) σ Q) : Ev X c s d mr pc L S σ Q := by
  subst hp; exact e_stp hd rfl rfl (by simp only [stp, ldI, hl, Option.map_some]) K
theorem e_lload_n {k : Fin 4} {z : Int64} (hd : decode mr.2.1 pc = .ok (.lload_n k, 1)) (hp : pc + 1 = pc') (hl : L[(k : Nat)]? = some (some (jv z))) (K : Ev X c s d mr pc' L (jv z :: S) σ Q) : Ev X c s d mr pc L S σ Q := by
  subst hp; exact e_stp hd rfl rfl (by simp only [stp, ldJ, hl, Option.map_some]) K
theorem e_lload {k : Nat} {z : Int64} (hd : decode mr.2.1 pc = .ok (.lload k, 2)) (hp : pc + 2 = pc') (hl : L[k]? = some (some (jv z))) (K : Ev X c s d mr pc' L (jv z :: S) σ Q) : Ev X c s d mr pc L S σ Q := by
  subst hp; exact e_stp hd rfl rfl (by simp only [stp, ldJ, hl, Option.map_some]) K
theorem e_aload_n {k : Fin 4} {z : Nat} (hd : decode mr.2.1 pc = .ok (.aload_n k, 1)) (hp : pc + 1 = pc') (hl : L[(k : Nat)]? = some (some (rv z))) (K : Ev X c s d mr pc' L (rv z :: S) σ Q) : Ev X c s d mr pc L S σ Q := by
  subst hp; exact e_stp hd rfl rfl (by simp only [stp, ldR, hl, Option.map_some]) K
theorem e_aload {k : Nat} {z : Nat} (hd : decode mr.2.1 pc = .ok (.aload k, 2)) (hp : pc + 2 = pc') (hl : L[k]? = some (some (rv z))) (K : Ev X c s d mr pc' L (rv z :: S) σ Q) : Ev X c s d mr pc L S σ Q := by
  subst hp; exact e_stp hd rfl rfl (by simp only [stp, ldR, hl, Option.map_some]) K
theorem e_scr {k : Fin 4} (hd : decode mr.2.1 pc = .ok (.aload_n k, 1)) (hp : pc + 1 = pc') (hl : L[(k : Nat)]? = some (some (sv 2))) (K : Ev X c s d mr pc' L (sv 2 :: S) σ Q) : Ev X c s d mr pc L S σ Q := by
  subst hp; exact e_stp hd rfl rfl (by simp only [stp, ldR, hl, Option.map_some]) K
theorem e_istore_n {k : Fin 4} {z : Int} (hd : decode mr.2.1 pc = .ok (.istore_n k, 1)) (hp : pc + 1 = pc') (hk : (k : Nat) < mr.2.2.1) (hl : st1 L k (iv z) = L') (K : Ev X c s d mr pc' L' S σ Q) : Ev X c s d mr pc L (iv z :: S) σ Q := by
  subst hp; exact e_stp hd rfl rfl (by simp only [stp, hk, if_true, hl]) K
theorem e_istore {k : Nat} {z : Int} (hd : decode mr.2.1 pc = .ok (.istore k, 2)) (hp : pc + 2 = pc') (hk : k < mr.2.2.1) (hl : st1 L k (iv z) = L') (K : Ev X c s d mr pc' L' S σ Q) : Ev X c s d mr pc L (iv z :: S) σ Q := by
  subst hp; exact e_stp hd rfl rfl (by simp only [stp, hk, if_true, hl]) K
theorem e_lstore_n {k : Fin 4} {z : Int64} (hd : decode mr.2.1 pc = .ok (.lstore_n k, 1)) (hp : pc + 1 = pc') (hk : (k : Nat) + 1 < mr.2.2.1) (hl : st2 L k (jv z) = L') (K : Ev X c s d mr pc' L' S σ Q) : Ev X c s d mr pc L (jv z :: S) σ Q := by
  subst hp; exact e_stp hd rfl rfl (by simp only [stp, hk, if_true, hl]) K
theorem e_lstore {k : Nat} {z : Int64} (hd : decode mr.2.1 pc = .ok (.lstore k, 2)) (hp : pc + 2 = pc') (hk : k + 1 < mr.2.2.1) (hl : st2 L k (jv z) = L') (K : Ev X c s d mr pc' L' S σ Q) : Ev X c s d mr pc L (jv z :: S) σ Q := by
  subst hp; exact e_stp hd rfl rfl (by simp only [stp, hk, if_true, hl]) K
theorem e_astore_n {k : Fin 4} {z : Nat} (hd : decode mr.2.1 pc = .ok (.astore_n k, 1)) (hp : pc + 1 = pc') (hk : (k : Nat) < mr.2.2.1) (hl : st1 L k (rv z) = L') (K : Ev X c s d mr pc' L' S σ Q) : Ev X c s d mr pc L (rv z :: S) σ Q := by
  subst hp; exact e_stp hd rfl rfl (by simp only [stp, hk, if_true, hl]) K
theorem e_astore {k : Nat} {z : Nat} (hd : decode mr.2.1 pc = .ok (.astore k, 2)) (hp : pc + 2 = pc') (hk : k < mr.2.2.1) (hl : st1 L k (rv z) = L') (K : Ev X c s d mr pc' L' S σ Q) : Ev X c s d mr pc L (rv z :: S) σ Q := by
  subst hp; exact e_stp hd rfl rfl (by simp only [stp, hk, if_true, hl]) K
theorem e_iinc {k : Nat} {z n : Int} (hd : decode mr.2.1 pc = .ok (.iinc k n, 3)) (hp : pc + 3 = pc') (h : L[k]? = some (some (iv z))) (hk : k < mr.2.2.1) (hl : st1 L k (iv (z + n)) = L') (K : Ev X c s d mr pc' L' S σ Q) : Ev X c s d mr pc L S σ Q := by
  subst hp; exact e_stp hd rfl rfl (by simp only [stp, h, hk, if_true, hl]) K
theorem e_iconst {n : Int} (hd : decode mr.2.1 pc = .ok (.iconst n, 1)) (hp : pc + 1 = pc') (K : Ev X c s d mr pc' L (iv n :: S) σ Q) : Ev X c s d mr pc L S σ Q := by
  subst hp; exact e_stp hd rfl rfl rfl K
theorem e_bipush {n z : Int} (hd : decode mr.2.1 pc = .ok (.bipush n, 2)) (hp : pc + 2 = pc') (hz : (Int8.ofInt n).toInt = z) (K : Ev X c s d mr pc' L (iv z :: S) σ Q) : Ev X c s d mr pc L S σ Q := by
  subst hp; subst hz; exact e_stp hd rfl rfl rfl K
theorem e_sipush {n z : Int} (hd : decode mr.2.1 pc = .ok (.sipush n, 3)) (hp : pc + 3 = pc') (hz : (Int16.ofInt n).toInt = z) (K : Ev X c s d mr pc' L (iv z :: S) σ Q) : Ev X c s d mr pc L S σ Q := by
  subst hp; subst hz; exact e_stp hd rfl rfl rfl K
theorem e_lconst {n : Fin 2} {z : Int64} (hd : decode mr.2.1 pc = .ok (.lconst n, 1)) (hp : pc + 1 = pc') (hz : Int64.ofNat n = z) (K : Ev X c s d mr pc' L (jv z :: S) σ Q) : Ev X c s d mr pc L S σ Q := by
  subst hp; subst hz; exact e_stp hd rfl rfl rfl K
theorem e_ldc2 {k : Nat} {z : Int64} (hd : decode mr.2.1 pc = .ok (.ldc2_w k, 3)) (hp : pc + 3 = pc') (hz : lcn mr.2.2.2.2.2.2 k = some z) (K : Ev X c s d mr pc' L (jv z :: S) σ Q) : Ev X c s d mr pc L S σ Q := by
  subst hp; exact e_stp hd rfl rfl (by simp only [stp, hz, Option.map_some]) K
theorem e_iadd {x y : Int} (hd : decode mr.2.1 pc = .ok (.iadd, 1)) (hp : pc + 1 = pc') (K : Ev X c s d mr pc' L (iv (x + y) :: S) σ Q) : Ev X c s d mr pc L (iv y :: iv x :: S) σ Q := by
  subst hp; exact e_stp hd rfl rfl rfl K
theorem e_isub {x y : Int} (hd : decode mr.2.1 pc = .ok (.isub, 1)) (hp : pc + 1 = pc') (K : Ev X c s d mr pc' L (iv (x - y) :: S) σ Q) : Ev X c s d mr pc L (iv y :: iv x :: S) σ Q := by
  subst hp; exact e_stp hd rfl rfl rfl K
theorem e_imul {x y : Int} (hd : decode mr.2.1 pc = .ok (.imul, 1)) (hp : pc + 1 = pc') (K : Ev X c s d mr pc' L (iv (x * y) :: S) σ Q) : Ev X c s d mr pc L (iv y :: iv x :: S) σ Q := by
  subst hp; exact e_stp hd rfl rfl rfl K
theorem e_ineg {x : Int} (hd : decode mr.2.1 pc = .ok (.ineg, 1)) (hp : pc + 1 = pc') (K : Ev X c s d mr pc' L (iv (-x) :: S) σ Q) : Ev X c s d mr pc L (iv x :: S) σ Q := by
  subst hp; exact e_stp hd rfl rfl rfl K
theorem e_iand {x y : Int} (hd : decode mr.2.1 pc = .ok (.iand, 1)) (hp : pc + 1 = pc') (K : Ev X c s d mr pc' L (iv (Int32.ofInt x &&& Int32.ofInt y).toInt :: S) σ Q) : Ev X c s d mr pc L (iv y :: iv x :: S) σ Q := by
  subst hp; exact e_stp hd rfl rfl rfl K
theorem div_ok {x y : Int} (hx : 0 ≤ x) (hx2 : x ≤ 2147483647) (hy : 0 < y) (hy2 : y ≤ 2147483647) : (Int32.ofInt x / Int32.ofInt y).toInt = x / y := by
  have e1 : Int32.ofInt x = nI x.toNat := by
    apply Int32.toInt_inj.mp
    rw [rg_to ⟨by omega, hx2⟩, nI_toInt (by omega)]
    omega
  have e2 : Int32.ofInt y = nI y.toNat := by
    apply Int32.toInt_inj.mp
    rw [rg_to ⟨by omega, hy2⟩, nI_toInt (by omega)]
    omega
  rw [e1, e2, pk_div (by omega) (by omega) (by omega), nI_toInt]
  · rw [Int.natCast_ediv, Int.toNat_of_nonneg hx, Int.toNat_of_nonneg (by omega)]
  · have := Nat.div_le_self x.toNat y.toNat
    omega
theorem e_idiv {x y : Int} (hd : decode mr.2.1 pc = .ok (.idiv, 1)) (hp : pc + 1 = pc') (hx : 0 ≤ x) (hx2 : x ≤ 2147483647) (hy : 0 < y) (hy2 : y ≤ 2147483647) (K : Ev X c s d mr pc' L (iv (x / y) :: S) σ Q) : Ev X c s d mr pc L (iv y :: iv x :: S) σ Q := by
  subst hp
  rw [← div_ok hx hx2 hy hy2] at K
  have hn : ¬ Int32.ofInt y = 0 := fun q => by
    have : Int32.ofInt y = Int32.ofInt 0 := q
    rw [rg_eq ⟨by omega, hy2⟩ ⟨by omega, by omega⟩] at this
    omega
  exact e_stp hd rfl rfl (by simp only [stp, hn, if_false]) K
theorem e_ladd {x y : Int64} (hd : decode mr.2.1 pc = .ok (.ladd, 1)) (hp : pc + 1 = pc') (K : Ev X c s d mr pc' L (jv (x + y) :: S) σ Q) : Ev X c s d mr pc L (jv y :: jv x :: S) σ Q := by
  subst hp; exact e_stp hd rfl rfl rfl K
theorem e_lsub {x y : Int64} (hd : decode mr.2.1 pc = .ok (.lsub, 1)) (hp : pc + 1 = pc') (K : Ev X c s d mr pc' L (jv (x - y) :: S) σ Q) : Ev X c s d mr pc L (jv y :: jv x :: S) σ Q := by
  subst hp; exact e_stp hd rfl rfl rfl K
theorem e_lmul {x y : Int64} (hd : decode mr.2.1 pc = .ok (.lmul, 1)) (hp : pc + 1 = pc') (K : Ev X c s d mr pc' L (jv (x * y) :: S) σ Q) : Ev X c s d mr pc L (jv y :: jv x :: S) σ Q := by
  subst hp; exact e_stp hd rfl rfl rfl K
theorem e_ldiv {x y : Int64} (hd : decode mr.2.1 pc = .ok (.ldiv, 1)) (hp : pc + 1 = pc') (hy : ¬ y = 0) (K : Ev X c s d mr pc' L (jv (x / y) :: S) σ Q) : Ev X c s d mr pc L (jv y :: jv x :: S) σ Q := by
  subst hp; exact e_stp hd rfl rfl (by simp only [stp, hy, if_false]) K
theorem e_lor {x y : Int64} (hd : decode mr.2.1 pc = .ok (.lor, 1)) (hp : pc + 1 = pc') (K : Ev X c s d mr pc' L (jv (x ||| y) :: S) σ Q) : Ev X c s d mr pc L (jv y :: jv x :: S) σ Q := by
  subst hp; exact e_stp hd rfl rfl rfl K
theorem e_lneg {x : Int64} (hd : decode mr.2.1 pc = .ok (.lneg, 1)) (hp : pc + 1 = pc') (K : Ev X c s d mr pc' L (jv (-x) :: S) σ Q) : Ev X c s d mr pc L (jv x :: S) σ Q := by
  subst hp; exact e_stp hd rfl rfl rfl K
theorem e_lshl {x : Int64} {y : Int} (hd : decode mr.2.1 pc = .ok (.lshl, 1)) (hp : pc + 1 = pc') (K : Ev X c s d mr pc' L (jv (x <<< ((Int32.ofInt y).toInt64 &&& 63)) :: S) σ Q) : Ev X c s d mr pc L (iv y :: jv x :: S) σ Q := by
  subst hp; exact e_stp hd rfl rfl rfl K
theorem e_lcmp {x y : Int64} (hd : decode mr.2.1 pc = .ok (.lcmp, 1)) (hp : pc + 1 = pc') (K : Ev X c s d mr pc' L (iv (lg_cmp x y).toInt :: S) σ Q) : Ev X c s d mr pc L (jv y :: jv x :: S) σ Q := by
  subst hp; exact e_stp hd rfl rfl rfl K
theorem e_i2l {x : Int} (hd : decode mr.2.1 pc = .ok (.i2l, 1)) (hp : pc + 1 = pc') (hx : rg x) (K : Ev X c s d mr pc' L (jv (Int64.ofInt x) :: S) σ Q) : Ev X c s d mr pc L (iv x :: S) σ Q := by
  subst hp
  have e1 : Int64.ofInt x = (Int32.ofInt x).toInt64 := by
    apply Int64.toInt_inj.mp
    have := hx.1
    have := hx.2
    rw [Int32.toInt_toInt64, rg_to hx, Int64.toInt_ofInt_of_le (by omega) (by omega)]
  rw [e1] at K
  exact e_stp hd rfl rfl rfl K
theorem e_l2i {x : Int64} (hd : decode mr.2.1 pc = .ok (.l2i, 1)) (hp : pc + 1 = pc') (K : Ev X c s d mr pc' L (iv x.toInt32.toInt :: S) σ Q) : Ev X c s d mr pc L (jv x :: S) σ Q := by
  subst hp; exact e_stp hd rfl rfl rfl K
theorem jmp_of {off : Int} {t : Nat} (h : (pc : Int) + off = (t : Int)) : jmp pc off = some t := by
  unfold jmp
  rw [h, if_pos (by omega)]
  simp
theorem e_goto {off : Int} (hd : decode mr.2.1 pc = .ok (.goto off, 3)) (hp : (pc : Int) + off = (pc' : Int)) (K : Ev X c s d mr pc' L S σ Q) : Ev X c s d mr pc L S σ Q :=
  e_stp hd rfl rfl (by simp only [stp, jmp_of hp, Option.map_some]) K
theorem e_if {o : Jvm.ClassFile.Cond} {off x : Int} {t : Nat} (hd : decode mr.2.1 pc = .ok (.ifCond o off, 3)) (hp : (pc : Int) + off = (t : Int)) (hp2 : pc + 3 = pc') (ht : tst o x 0 = true → Ev X c s d mr t L S σ Q) (hf : tst o x 0 = false → Ev X c s d mr pc' L S σ Q) : Ev X c s d mr pc L (iv x :: S) σ Q := by
  subst hp2
  cases h : tst o x 0 with
  | true => exact e_stp hd rfl rfl (by simp only [stp, jmp_of hp, Option.map_some, h, if_true]) (ht h)
  | false => exact e_stp hd rfl rfl (by simp only [stp, jmp_of hp, Option.map_some, h]; rfl) (hf h)
theorem e_icmp {o : Jvm.ClassFile.Cond} {off x y : Int} {t : Nat} (hd : decode mr.2.1 pc = .ok (.if_icmp o off, 3)) (hp : (pc : Int) + off = (t : Int)) (hp2 : pc + 3 = pc') (ht : tst o x y = true → Ev X c s d mr t L S σ Q) (hf : tst o x y = false → Ev X c s d mr pc' L S σ Q) : Ev X c s d mr pc L (iv y :: iv x :: S) σ Q := by
  subst hp2
  cases h : tst o x y with
  | true => exact e_stp hd rfl rfl (by simp only [stp, jmp_of hp, Option.map_some, h, if_true]) (ht h)
  | false => exact e_stp hd rfl rfl (by simp only [stp, jmp_of hp, Option.map_some, h]; rfl) (hf h)
/-- the test of two ints in range, as integers -/
def tsI (o : Jvm.ClassFile.Cond) (x y : Int) : Prop := match o with
  | .eq => x = y
  | .ne => x ≠ y
  | .lt => x < y
  | .ge => y ≤ x
  | .gt => y < x
  | .le => x ≤ y
theorem tst_iff {o : Jvm.ClassFile.Cond} {x y : Int} (hx : rg x) (hy : rg y) : tst o x y = true ↔ tsI o x y := by
  cases o <;> simp only [tst, tsI, decide_eq_true_eq, rg_eq hx hy, rg_lt hx hy, rg_le hx hy, rg_lt hy hx, rg_le hy hx, ne_eq]
theorem e_ifI {o : Jvm.ClassFile.Cond} {off x : Int} {t : Nat} (hd : decode mr.2.1 pc = .ok (.ifCond o off, 3)) (hp : (pc : Int) + off = (t : Int)) (hp2 : pc + 3 = pc') (hx : rg x) (ht : tsI o x 0 → Ev X c s d mr t L S σ Q) (hf : ¬ tsI o x 0 → Ev X c s d mr pc' L S σ Q) : Ev X c s d mr pc L (iv x :: S) σ Q :=
  e_if hd hp hp2 (fun h => ht ((tst_iff hx ⟨by omega, by omega⟩).mp h)) (fun h => hf (fun q => by rw [(tst_iff hx ⟨by omega, by omega⟩).mpr q] at h; cases h))
theorem e_icmpI {o : Jvm.ClassFile.Cond} {off x y : Int} {t : Nat} (hd : decode mr.2.1 pc = .ok (.if_icmp o off, 3)) (hp : (pc : Int) + off = (t : Int)) (hp2 : pc + 3 = pc') (hx : rg x) (hy : rg y) (ht : tsI o x y → Ev X c s d mr t L S σ Q) (hf : ¬ tsI o x y → Ev X c s d mr pc' L S σ Q) : Ev X c s d mr pc L (iv y :: iv x :: S) σ Q :=
  e_icmp hd hp hp2 (fun h => ht ((tst_iff hx hy).mp h)) (fun h => hf (fun q => by rw [(tst_iff hx hy).mpr q] at h; cases h))
/-- the test behind a comparison of longs -/
def tsJ (o : Jvm.ClassFile.Cond) (x y : Int64) : Prop := match o with
  | .eq => x = y
  | .ne => x ≠ y
  | .lt => x < y
  | .ge => y ≤ x
  | .gt => y < x
  | .le => x ≤ y
theorem lg_cases (x y : Int64) : (x < y ∧ (lg_cmp x y).toInt = -1) ∨ (x = y ∧ (lg_cmp x y).toInt = 0) ∨ (y < x ∧ (lg_cmp x y).toInt = 1) := by
  unfold lg_cmp
  rcases Int.lt_trichotomy x.toInt y.toInt with h | h | h
  · left
    have h1 : x < y := Int64.lt_iff_toInt_lt.mpr h
    have h2 : ¬ y < x := fun q => by have := Int64.lt_iff_toInt_lt.mp q; omega
    have h3 : ¬ x = y := fun q => by rw [q] at h; omega
    refine ⟨h1, ?_⟩
    simp [h1, h2, h3]
  · right; left
    have h1 : x = y := Int64.toInt_inj.mp h
    subst h1
    have h2 : ¬ x < x := fun q => by have := Int64.lt_iff_toInt_lt.mp q; omega
    refine ⟨rfl, ?_⟩
    simp [h2]
  · right; right
    have h1 : y < x := Int64.lt_iff_toInt_lt.mpr h
    have h2 : ¬ x < y := fun q => by have := Int64.lt_iff_toInt_lt.mp q; omega
    have h3 : ¬ x = y := fun q => by rw [q] at h; omega
    refine ⟨h1, ?_⟩
    simp [h1, h2, h3]
theorem tsJ_iff {o : Jvm.ClassFile.Cond} {x y : Int64} : tsI o (lg_cmp x y).toInt 0 ↔ tsJ o x y := by
  have key : ∀ a b : Int64, (a < b ↔ a.toInt < b.toInt) ∧ (a ≤ b ↔ a.toInt ≤ b.toInt) ∧ (a = b ↔ a.toInt = b.toInt) := fun a b => ⟨Int64.lt_iff_toInt_lt, Int64.le_iff_toInt_le, Int64.toInt_inj.symm⟩
  have h := lg_cases x y
  simp only [(key _ _).1, (key _ _).2.2] at h
  cases o <;> simp only [tsI, tsJ, (key _ _).1, (key _ _).2.1, (key _ _).2.2, ne_eq] <;> omega
theorem e_ifJ {o : Jvm.ClassFile.Cond} {off : Int} {x y : Int64} {t : Nat} (hd : decode mr.2.1 pc = .ok (.ifCond o off, 3)) (hp : (pc : Int) + off = (t : Int)) (hp2 : pc + 3 = pc') (ht : tsJ o x y → Ev X c s d mr t L S σ Q) (hf : ¬ tsJ o x y → Ev X c s d mr pc' L S σ Q) : Ev X c s d mr pc L (iv (lg_cmp x y).toInt :: S) σ Q := by
  have hr : rg (lg_cmp x y).toInt := by
    have h := lg_cases x y
    constructor <;> omega
  exact e_ifI hd hp hp2 hr (fun h => ht (tsJ_iff.mp h)) (fun h => hf (fun q => h (tsJ_iff.mpr q)))
theorem e_table {dflt lo hi x off : Int} {offs : Array Int} {len : Nat} (hd : decode mr.2.1 pc = .ok (.tableswitch dflt lo hi offs, len)) (hx : rg x) (ho : (if x < lo ∨ hi < x then some dflt else offs[(x - lo).toNat]?) = some off) (hp : (pc : Int) + off = (pc' : Int)) (K : Ev X c s d mr pc' L S σ Q) : Ev X c s d mr pc L (iv x :: S) σ Q :=
  e_stp hd rfl rfl (by simp only [stp, swt, rg_to hx, ho, jmp_of hp, Option.map_some]) K
theorem e_lookup {dflt x off : Int} {ps : Array (Int × Int)} {len : Nat} (hd : decode mr.2.1 pc = .ok (.lookupswitch dflt ps, len)) (hx : rg x) (hs : (ps.toList.zip (ps.toList.drop 1)).all (fun (a, next) => a.1 < next.1) = true) (ho : Op.lookupswitch.offset ps.toList dflt x = off) (hp : (pc : Int) + off = (pc' : Int)) (K : Ev X c s d mr pc' L S σ Q) : Ev X c s d mr pc L (iv x :: S) σ Q :=
  e_stp hd rfl rfl (by simp only [stp, rg_to hx, hs, ho, if_true, jmp_of hp, Option.map_some]) K
theorem e_dup {v : AV} (hd : decode mr.2.1 pc = .ok (.dup, 1)) (hp : pc + 1 = pc') (hc : cat v = 1) (K : Ev X c s d mr pc' L (v :: v :: S) σ Q) : Ev X c s d mr pc L (v :: S) σ Q := by
  subst hp; exact e_stp hd rfl rfl (by simp only [stp, hc, if_true]) K
theorem e_dup2 {v w : AV} (hd : decode mr.2.1 pc = .ok (.dup2, 1)) (hp : pc + 1 = pc') (hc : cat v = 1 ∧ cat w = 1) (K : Ev X c s d mr pc' L (v :: w :: v :: w :: S) σ Q) : Ev X c s d mr pc L (v :: w :: S) σ Q := by
  subst hp; exact e_stp hd rfl rfl (by simp only [stp, hc, and_self, if_true]) K
theorem e_pop {v : AV} (hd : decode mr.2.1 pc = .ok (.pop, 1)) (hp : pc + 1 = pc') (hc : cat v = 1) (K : Ev X c s d mr pc' L S σ Q) : Ev X c s d mr pc L (v :: S) σ Q := by
  subst hp; exact e_stp hd rfl rfl (by simp only [stp, hc, if_true]) K
end EV
