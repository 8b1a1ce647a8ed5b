theorem lk_none (ps : List (Int × Int)) (d x : Int) (h : ∀ q ∈ ps, ¬ x = q.1) : Op.lookupswitch.offset ps d x = d := by
  induction ps with
  | nil => rfl
  | cons a ps ih =>
    have h1 := h a List.mem_cons_self
    have h2 := ih (fun q hq => h q (List.mem_cons_of_mem _ hq))
    obtain ⟨a1, a2⟩ := a
    simp only at h1
    rw [Op.lookupswitch.offset_cons, if_neg (fun q => h1 q.symm)]
    exact h2
def pushS (v : Int64) (st : List Int64) : List Int64 := if st.length < 40 then v :: st else st
def popV (st : List Int64) : Int64 := st.headD 0
def popR (st : List Int64) : List Int64 := st.tail
def isStk (f : Int → Int64) : List Int64 → Prop
  | [] => True
  | v :: r => f (r.length : Int) = v ∧ isStk f r
theorem isStk_up {f : Int → Int64} {v : Int64} : ∀ {st : List Int64} {i : Int}, (st.length : Int) ≤ i → isStk f st → isStk (fun j => if j = i then v else f j) st
  | [], _, _, _ => trivial
  | w :: r, i, hi, h => by
    have hi2 : ((r.length + 1 : Nat) : Int) ≤ i := hi
    refine ⟨?_, isStk_up (by omega) h.2⟩
    show (if (r.length : Int) = i then v else f r.length) = w
    rw [if_neg (by omega)]
    exact h.1
theorem isStk_upJ {σ : SG} {q : Nat} {v : Int64} {st : List Int64} {i : Int} (hi : (st.length : Int) ≤ i) (h : isStk (σ.2 q) st) : isStk ((upJ σ q i v).2 q) st := by
  have e : (upJ σ q i v).2 q = fun j => if j = i then v else σ.2 q j := by funext j; simp only [upJ, true_and]
  rw [e]
  exact isStk_up hi h
def StI (σ : SG) (st : List Int64) : Prop := σ.1 37 1 = (st.length : Int) ∧ isStk (σ.2 38) st ∧ st.length ≤ 40
theorem pushS_len {v : Int64} {st : List Int64} (h : st.length ≤ 40) : (pushS v st).length ≤ 40 := by
  unfold pushS
  split
  · show st.length + 1 ≤ 40; omega
  · exact h
def jnS (s : Int) (l r : Int64) : Int64 := if s = 124 then (if l ≠ 0 ∨ r ≠ 0 then 1 else 0) else if s = 38 then (if l ≠ 0 ∧ r ≠ 0 then 1 else 0) else if s = 60 then (if l < r then 1 else 0) else if s = 62 then (if r < l then 1 else 0) else if s = 61 then (if l = r then 1 else 0) else if s = 43 then l + r else if s = 45 then l - r else if s = 42 then l * r else if s = 47 then (if r = 0 then 0 else l / r) else 0
def dsS (t : ST) (g : Int) (st : List Int64) : List Int64 := if g = 115 then pushS (Int64.ofInt t.1) st else if g = 110 then pushS (Int64.ofInt t.2.1) st else if g = 109 then pushS (Int64.ofInt t.2.2.1) st else if g = 108 then pushS (Int64.ofInt t.2.2.2.1) st else if g = 114 then pushS (t.2.2.2.2 * t.2.2.2.2 / 1000000000000) st else if g = 33 then pushS (if popV st = 0 then 1 else 0) (popR st) else if g = 126 then pushS (-(popV st)) (popR st) else pushS (jnS g (popV (popR st)) (popV st)) (popR (popR st))
def evS (t : ST) (f : Int → Int) : Nat → List Int64
  | 0 => []
  | n + 1 => if 0 ≤ f n then pushS (Int64.ofInt (f n)) (evS t f n) else dsS t (-(f n)) (evS t f n)
def evI (t : ST) (f : Int → Int) (i : Int) : List Int64 := evS t f i.toNat
theorem evI_s (t : ST) (f : Int → Int) {i : Int} (h : 0 ≤ i) : evI t f (i + 1) = if 0 ≤ f i then pushS (Int64.ofInt (f i)) (evI t f i) else dsS t (-(f i)) (evI t f i) := by
  unfold evI
  have e1 : (i + 1).toNat = i.toNat + 1 := by omega
  rw [e1]
  show (if 0 ≤ f ((i.toNat : Nat) : Int) then _ else _) = _
  rw [Int.toNat_of_nonneg h]
def clS (v : Int64) : Int := (if (if v < 99 then v else 99) < 0 then (0 : Int64) else (if v < 99 then v else 99)).toInt32.toInt
def tlS (t : ST) (flaw : Int) (f : Int → Int) (n : Int) : Int := if flaw = -1 then clS (popV (evI t f n)) else 0

set_option maxHeartbeats 4000000 in
set_option maxRecDepth 100000 in
theorem s_push {X : AX} {d : Nat} {σ : SG} (t : ST) (st : List Int64) (hS : SgI σ t) (hT : StI σ st) (v : Int64) : Ev X 0 0 d mX9_push 0 [some (rv 37), some (jv v), none] [] σ (QV (fun σ' => StI σ' (pushS v st) ∧ SgI σ' t ∧ Fr [37, 38] σ σ')) := by
  have hl := hT.2.2
  refine e_aload_n (pc' := 1) dX9_push_0 rfl rfl ?_
  refine e_getI (pc' := 4) (v := (st.length : Int)) dX9_push_1 rfl f_9_65 h_37 rfl hT.1 ?_
  refine e_bipush (pc' := 6) (z := 40) dX9_push_4 rfl (by decide) ?_
  refine e_icmpI (pc' := 9) (t := 29) dX9_push_6 (by decide) rfl ⟨by omega, by omega⟩ ⟨by omega, by omega⟩ (fun (c2_1 : 40 ≤ ((st.length : Int) : Int)) => ?_) (fun (c2_1 : ¬ (40 ≤ ((st.length : Int) : Int))) => ?_)
  · exact e_vret dX9_push_29 rfl ⟨rfl, Nat.le_refl _⟩ ⟨rfl, by unfold pushS; rw [if_neg (by omega)]; exact hT, hS, Fr.rf⟩
  · refine e_aload_n (pc' := 10) dX9_push_9 rfl rfl ?_
    refine e_getR (pc' := 13) dX9_push_10 rfl f_9_9 h_37 rfl ?_
    refine e_aload_n (pc' := 14) dX9_push_13 rfl rfl ?_
    refine e_getI (pc' := 17) (v := (st.length : Int)) dX9_push_14 rfl f_9_65 h_37 rfl hT.1 ?_
    refine e_lload_n (pc' := 18) dX9_push_17 rfl rfl ?_
    refine e_last (pc' := 19) dX9_push_18 rfl h_38 (by decide) (by omega) (by omega) ?_
    refine e_aload_n (pc' := 20) dX9_push_19 rfl rfl ?_
    refine e_dup (pc' := 21) dX9_push_20 rfl rfl ?_
    refine e_getI (pc' := 24) (v := (st.length : Int)) dX9_push_21 rfl f_9_65 h_37 rfl hT.1 ?_
    refine e_iconst (pc' := 25) dX9_push_24 rfl ?_
    refine e_iadd (pc' := 26) dX9_push_25 rfl ?_
    refine e_putI (pc' := 29) dX9_push_26 rfl f_9_65 h_37 rfl rfl rfl ?_
    exact e_vret dX9_push_29 rfl ⟨rfl, Nat.le_refl _⟩ ⟨rfl, by unfold pushS; rw [if_pos (by omega)]; exact ⟨rfl, ⟨if_pos ⟨rfl, rfl⟩, isStk_upJ (σ := σ) (q := 38) (Int.le_refl _) hT.2.1⟩, by show st.length + 1 ≤ 40; omega⟩, hS, (by repeat (first | exact Fr.rf | (refine fr_I ?_ (by decide)) | (refine fr_J ?_ (by decide)) | (refine fr_C ?_ (by decide))))⟩

set_option maxHeartbeats 4000000 in
set_option maxRecDepth 100000 in
theorem s_pop0 {X : AX} {d : Nat} {σ : SG} (t : ST) (hS : SgI σ t) (hT : StI σ []) : Ev X 0 0 d mX9_pop 0 [some (rv 37)] [] σ (QJ (fun r σ' => r = 0 ∧ StI σ' [] ∧ SgI σ' t ∧ Fr [37, 38] σ σ')) := by
  refine e_aload_n (pc' := 1) dX9_pop_0 rfl rfl ?_
  refine e_getI (pc' := 4) (v := 0) dX9_pop_1 rfl f_9_65 h_37 rfl hT.1 ?_
  refine e_ifI (pc' := 7) (t := 9) dX9_pop_4 (by decide) rfl ⟨by omega, by omega⟩ (fun c2_1 => absurd (show (0 : Int) ≠ 0 from c2_1) (by decide)) (fun _ => ?_)
  refine e_lconst (pc' := 8) (z := 0) dX9_pop_7 rfl rfl ?_
  exact e_lret dX9_pop_8 rfl ⟨rfl, Nat.le_refl _⟩ ⟨_, rfl, rfl, hT, hS, Fr.rf⟩

set_option maxHeartbeats 4000000 in
set_option maxRecDepth 100000 in
theorem s_pop1 {X : AX} {d : Nat} {σ : SG} (t : ST) (w : Int64) (st : List Int64) (hS : SgI σ t) (hT : StI σ (w :: st)) : Ev X 0 0 d mX9_pop 0 [some (rv 37)] [] σ (QJ (fun r σ' => r = w ∧ StI σ' st ∧ SgI σ' t ∧ Fr [37, 38] σ σ')) := by
  have hl := hT.2.2
  have hl2 : (w :: st).length = st.length + 1 := rfl
  refine e_aload_n (pc' := 1) dX9_pop_0 rfl rfl ?_
  refine e_getI (pc' := 4) (v := ((w :: st).length : Int)) dX9_pop_1 rfl f_9_65 h_37 rfl hT.1 ?_
  refine e_ifI (pc' := 7) (t := 9) dX9_pop_4 (by decide) rfl ⟨by omega, by omega⟩ (fun (c2_1 : (((w :: st).length : Int) : Int) ≠ 0) => ?_) (fun (c2_1 : ¬ ((((w :: st).length : Int) : Int) ≠ 0)) => absurd (show ((w :: st).length : Int) ≠ 0 by omega) c2_1)
  refine e_aload_n (pc' := 10) dX9_pop_9 rfl rfl ?_
  refine e_dup (pc' := 11) dX9_pop_10 rfl rfl ?_
  refine e_getI (pc' := 14) (v := ((w :: st).length : Int)) dX9_pop_11 rfl f_9_65 h_37 rfl hT.1 ?_
  refine e_iconst (pc' := 15) dX9_pop_14 rfl ?_
  refine e_isub (pc' := 16) dX9_pop_15 rfl ?_
  refine e_putI (pc' := 19) dX9_pop_16 rfl f_9_65 h_37 rfl rfl rfl ?_
  refine e_aload_n (pc' := 20) dX9_pop_19 rfl rfl ?_
  refine e_getR (pc' := 23) dX9_pop_20 rfl f_9_9 h_37 rfl ?_
  refine e_aload_n (pc' := 24) dX9_pop_23 rfl rfl ?_
  refine e_getI (pc' := 27) (v := (((w :: st).length : Int) - 1)) dX9_pop_24 rfl f_9_65 h_37 rfl rfl ?_
  refine e_lald (pc' := 28) (v := (σ.2 38 (((w :: st).length : Int) - 1))) dX9_pop_27 rfl h_38 (by decide) (by omega) (by omega) rfl ?_
  exact e_lret dX9_pop_28 rfl ⟨rfl, Nat.le_refl _⟩ ⟨_, rfl, by have h1 := hT.2.1.1; rw [show (((w :: st).length : Int) - 1) = (st.length : Int) by omega]; exact h1, ⟨by show ((w :: st).length : Int) - 1 = _; omega, hT.2.1.2, by omega⟩, hS, (by repeat (first | exact Fr.rf | (refine fr_I ?_ (by decide)) | (refine fr_J ?_ (by decide)) | (refine fr_C ?_ (by decide))))⟩

theorem s_pop {X : AX} {d : Nat} {σ : SG} (t : ST) (st : List Int64) (hS : SgI σ t) (hT : StI σ st) : Ev X 0 0 d mX9_pop 0 [some (rv 37)] [] σ (QJ (fun r σ' => r = popV st ∧ StI σ' (popR st) ∧ SgI σ' t ∧ Fr [37, 38] σ σ')) := by
  cases st with
  | nil => exact s_pop0 t hS hT
  | cons w r => exact s_pop1 t w r hS hT

set_option maxHeartbeats 4000000 in
set_option maxRecDepth 100000 in
theorem s_joined {X : AX} {d : Nat} {σ : SG} (g : Int) (l r : Int64) (hg : rg g) : Ev X 0 0 d mX9_joined 0 [some (iv g), some (jv l), none, some (jv r), none] [] σ (QJ (fun v σ' => σ' = σ ∧ v = jnS g l r)) := by
  obtain ⟨hg1, hg2⟩ := hg
  refine e_iload_n (pc' := 1) dX9_joined_0 rfl rfl ?_
  by_cases k2_1 : g = 38
  · refine e_lookup (pc' := 102) (off := 101) dX9_joined_1 ⟨by omega, by omega⟩ (by decide) (by rw [k2_1]; rfl) (by decide) ?_
    refine e_lload_n (pc' := 103) dX9_joined_102 rfl rfl ?_
    refine e_lconst (pc' := 104) (z := 0) dX9_joined_103 rfl rfl ?_
    refine e_lcmp (pc' := 105) dX9_joined_104 rfl ?_
    refine e_ifJ (pc' := 108) (t := 118) dX9_joined_105 (by decide) rfl (fun (c4_2 : (l : Int64) = 0) => ?_) (fun (c4_2 : ¬ ((l : Int64) = 0)) => ?_)
    · refine e_lconst (pc' := 119) (z := 0) dX9_joined_118 rfl rfl ?_
      exact e_lret dX9_joined_119 rfl ⟨rfl, Nat.le_refl _⟩ ⟨_, rfl, rfl, by simp_all [jnS]⟩
    · refine e_lload_n (pc' := 109) dX9_joined_108 rfl rfl ?_
      refine e_lconst (pc' := 110) (z := 0) dX9_joined_109 rfl rfl ?_
      refine e_lcmp (pc' := 111) dX9_joined_110 rfl ?_
      refine e_ifJ (pc' := 114) (t := 118) dX9_joined_111 (by decide) rfl (fun (c6_3 : (r : Int64) = 0) => ?_) (fun (c6_3 : ¬ ((r : Int64) = 0)) => ?_)
      · refine e_lconst (pc' := 119) (z := 0) dX9_joined_118 rfl rfl ?_
        exact e_lret dX9_joined_119 rfl ⟨rfl, Nat.le_refl _⟩ ⟨_, rfl, rfl, by simp_all [jnS]⟩
      · refine e_lconst (pc' := 115) (z := 1) dX9_joined_114 rfl rfl ?_
        refine e_goto (pc' := 119) dX9_joined_115 (by decide) ?_
        exact e_lret dX9_joined_119 rfl ⟨rfl, Nat.le_refl _⟩ ⟨_, rfl, rfl, by simp_all [jnS]⟩
  by_cases k2_2 : g = 42
  · refine e_lookup (pc' := 164) (off := 163) dX9_joined_1 ⟨by omega, by omega⟩ (by decide) (by rw [k2_2]; rfl) (by decide) ?_
    refine e_lload_n (pc' := 165) dX9_joined_164 rfl rfl ?_
    refine e_lload_n (pc' := 166) dX9_joined_165 rfl rfl ?_
    refine e_lmul (pc' := 167) dX9_joined_166 rfl ?_
    exact e_lret dX9_joined_167 rfl ⟨rfl, Nat.le_refl _⟩ ⟨_, rfl, rfl, by simp_all [jnS]⟩
  by_cases k2_3 : g = 43
  · refine e_lookup (pc' := 156) (off := 155) dX9_joined_1 ⟨by omega, by omega⟩ (by decide) (by rw [k2_3]; rfl) (by decide) ?_
    refine e_lload_n (pc' := 157) dX9_joined_156 rfl rfl ?_
    refine e_lload_n (pc' := 158) dX9_joined_157 rfl rfl ?_
    refine e_ladd (pc' := 159) dX9_joined_158 rfl ?_
    exact e_lret dX9_joined_159 rfl ⟨rfl, Nat.le_refl _⟩ ⟨_, rfl, rfl, by simp_all [jnS]⟩
  by_cases k2_4 : g = 45
  · refine e_lookup (pc' := 160) (off := 159) dX9_joined_1 ⟨by omega, by omega⟩ (by decide) (by rw [k2_4]; rfl) (by decide) ?_
    refine e_lload_n (pc' := 161) dX9_joined_160 rfl rfl ?_
    refine e_lload_n (pc' := 162) dX9_joined_161 rfl rfl ?_
    refine e_lsub (pc' := 163) dX9_joined_162 rfl ?_
    exact e_lret dX9_joined_163 rfl ⟨rfl, Nat.le_refl _⟩ ⟨_, rfl, rfl, by simp_all [jnS]⟩
  by_cases k2_5 : g = 47
  · refine e_lookup (pc' := 168) (off := 167) dX9_joined_1 ⟨by omega, by omega⟩ (by decide) (by rw [k2_5]; rfl) (by decide) ?_
    refine e_lload_n (pc' := 169) dX9_joined_168 rfl rfl ?_
    refine e_lconst (pc' := 170) (z := 0) dX9_joined_169 rfl rfl ?_
    refine e_lcmp (pc' := 171) dX9_joined_170 rfl ?_
    refine e_ifJ (pc' := 174) (t := 178) dX9_joined_171 (by decide) rfl (fun (c4_6 : (r : Int64) ≠ 0) => ?_) (fun (c4_6 : ¬ ((r : Int64) ≠ 0)) => ?_)
    · refine e_lload_n (pc' := 179) dX9_joined_178 rfl rfl ?_
      refine e_lload_n (pc' := 180) dX9_joined_179 rfl rfl ?_
      refine e_ldiv (pc' := 181) dX9_joined_180 rfl (by assumption) ?_
      exact e_lret dX9_joined_181 rfl ⟨rfl, Nat.le_refl _⟩ ⟨_, rfl, rfl, by simp_all [jnS]⟩
    · refine e_lconst (pc' := 175) (z := 0) dX9_joined_174 rfl rfl ?_
      refine e_goto (pc' := 181) dX9_joined_175 (by decide) ?_
      exact e_lret dX9_joined_181 rfl ⟨rfl, Nat.le_refl _⟩ ⟨_, rfl, rfl, by simp_all [jnS]⟩
  by_cases k2_6 : g = 60
  · refine e_lookup (pc' := 120) (off := 119) dX9_joined_1 ⟨by omega, by omega⟩ (by decide) (by rw [k2_6]; rfl) (by decide) ?_
    refine e_lload_n (pc' := 121) dX9_joined_120 rfl rfl ?_
    refine e_lload_n (pc' := 122) dX9_joined_121 rfl rfl ?_
    refine e_lcmp (pc' := 123) dX9_joined_122 rfl ?_
    refine e_ifJ (pc' := 126) (t := 130) dX9_joined_123 (by decide) rfl (fun (c4_7 : r ≤ (l : Int64)) => ?_) (fun (c4_7 : ¬ (r ≤ (l : Int64))) => ?_)
    · refine e_lconst (pc' := 131) (z := 0) dX9_joined_130 rfl rfl ?_
      exact e_lret dX9_joined_131 rfl ⟨rfl, Nat.le_refl _⟩ ⟨_, rfl, rfl, by simp_all [jnS]⟩
    · refine e_lconst (pc' := 127) (z := 1) dX9_joined_126 rfl rfl ?_
      refine e_goto (pc' := 131) dX9_joined_127 (by decide) ?_
      exact e_lret dX9_joined_131 rfl ⟨rfl, Nat.le_refl _⟩ ⟨_, rfl, rfl, by simp_all [jnS]⟩
  by_cases k2_7 : g = 61
  · refine e_lookup (pc' := 144) (off := 143) dX9_joined_1 ⟨by omega, by omega⟩ (by decide) (by rw [k2_7]; rfl) (by decide) ?_
    refine e_lload_n (pc' := 145) dX9_joined_144 rfl rfl ?_
    refine e_lload_n (pc' := 146) dX9_joined_145 rfl rfl ?_
    refine e_lcmp (pc' := 147) dX9_joined_146 rfl ?_
    refine e_ifJ (pc' := 150) (t := 154) dX9_joined_147 (by decide) rfl (fun (c4_8 : (l : Int64) ≠ r) => ?_) (fun (c4_8 : ¬ ((l : Int64) ≠ r)) => ?_)
    · refine e_lconst (pc' := 155) (z := 0) dX9_joined_154 rfl rfl ?_
      exact e_lret dX9_joined_155 rfl ⟨rfl, Nat.le_refl _⟩ ⟨_, rfl, rfl, by simp_all [jnS]⟩
    · refine e_lconst (pc' := 151) (z := 1) dX9_joined_150 rfl rfl ?_
      refine e_goto (pc' := 155) dX9_joined_151 (by decide) ?_
      exact e_lret dX9_joined_155 rfl ⟨rfl, Nat.le_refl _⟩ ⟨_, rfl, rfl, by simp_all [jnS]⟩
  by_cases k2_8 : g = 62
  · refine e_lookup (pc' := 132) (off := 131) dX9_joined_1 ⟨by omega, by omega⟩ (by decide) (by rw [k2_8]; rfl) (by decide) ?_
    refine e_lload_n (pc' := 133) dX9_joined_132 rfl rfl ?_
    refine e_lload_n (pc' := 134) dX9_joined_133 rfl rfl ?_
    refine e_lcmp (pc' := 135) dX9_joined_134 rfl ?_
    refine e_ifJ (pc' := 138) (t := 142) dX9_joined_135 (by decide) rfl (fun (c4_9 : (l : Int64) ≤ r) => ?_) (fun (c4_9 : ¬ ((l : Int64) ≤ r)) => ?_)
    · refine e_lconst (pc' := 143) (z := 0) dX9_joined_142 rfl rfl ?_
      exact e_lret dX9_joined_143 rfl ⟨rfl, Nat.le_refl _⟩ ⟨_, rfl, rfl, by simp_all [jnS]⟩
    · refine e_lconst (pc' := 139) (z := 1) dX9_joined_138 rfl rfl ?_
      refine e_goto (pc' := 143) dX9_joined_139 (by decide) ?_
      exact e_lret dX9_joined_143 rfl ⟨rfl, Nat.le_refl _⟩ ⟨_, rfl, rfl, by simp_all [jnS]⟩
  by_cases k2_9 : g = 124
  · refine e_lookup (pc' := 84) (off := 83) dX9_joined_1 ⟨by omega, by omega⟩ (by decide) (by rw [k2_9]; rfl) (by decide) ?_
    refine e_lload_n (pc' := 85) dX9_joined_84 rfl rfl ?_
    refine e_lconst (pc' := 86) (z := 0) dX9_joined_85 rfl rfl ?_
    refine e_lcmp (pc' := 87) dX9_joined_86 rfl ?_
    refine e_ifJ (pc' := 90) (t := 96) dX9_joined_87 (by decide) rfl (fun (c4_10 : (l : Int64) ≠ 0) => ?_) (fun (c4_10 : ¬ ((l : Int64) ≠ 0)) => ?_)
    · refine e_lconst (pc' := 97) (z := 1) dX9_joined_96 rfl rfl ?_
      refine e_goto (pc' := 101) dX9_joined_97 (by decide) ?_
      exact e_lret dX9_joined_101 rfl ⟨rfl, Nat.le_refl _⟩ ⟨_, rfl, rfl, by simp_all [jnS]⟩
    · refine e_lload_n (pc' := 91) dX9_joined_90 rfl rfl ?_
      refine e_lconst (pc' := 92) (z := 0) dX9_joined_91 rfl rfl ?_
      refine e_lcmp (pc' := 93) dX9_joined_92 rfl ?_
      refine e_ifJ (pc' := 96) (t := 100) dX9_joined_93 (by decide) rfl (fun (c6_11 : (r : Int64) = 0) => ?_) (fun (c6_11 : ¬ ((r : Int64) = 0)) => ?_)
      · refine e_lconst (pc' := 101) (z := 0) dX9_joined_100 rfl rfl ?_
        exact e_lret dX9_joined_101 rfl ⟨rfl, Nat.le_refl _⟩ ⟨_, rfl, rfl, by simp_all [jnS]⟩
      · refine e_lconst (pc' := 97) (z := 1) dX9_joined_96 rfl rfl ?_
        refine e_goto (pc' := 101) dX9_joined_97 (by decide) ?_
        exact e_lret dX9_joined_101 rfl ⟨rfl, Nat.le_refl _⟩ ⟨_, rfl, rfl, by simp_all [jnS]⟩
  refine e_lookup (pc' := 182) (off := 181) dX9_joined_1 ⟨by omega, by omega⟩ (by decide) (lk_none _ _ _ (by simp only [List.mem_cons, List.not_mem_nil, or_false, forall_eq_or_imp, forall_eq, ne_eq]; omega)) (by decide) ?_
  refine e_lconst (pc' := 183) (z := 0) dX9_joined_182 rfl rfl ?_
  exact e_lret dX9_joined_183 rfl ⟨rfl, Nat.le_refl _⟩ ⟨_, rfl, rfl, by simp_all [jnS]⟩
