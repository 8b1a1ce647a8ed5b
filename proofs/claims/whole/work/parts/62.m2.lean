/-! the reference's reading: its two stacks -/
def PsI (σ : SG) (u : Int) (vs : List Int64) (ss : List Int) (p fl : Int) : Prop := σ.1 88 3 = u ∧ σ.1 88 4 = p ∧ σ.1 88 5 = fl ∧ σ.1 88 7 = (vs.length : Int) ∧ σ.1 88 9 = (ss.length : Int) ∧ isStk (σ.2 92) vs ∧ isLst (σ.1 93) ss
def K88 (σ σ' : SG) : Prop := σ'.1 88 13 = σ.1 88 13 ∧ σ'.1 88 18 = σ.1 88 18 ∧ σ'.1 88 19 = σ.1 88 19 ∧ σ'.1 88 20 = σ.1 88 20
theorem K88.rf {σ : SG} : K88 σ σ := ⟨rfl, rfl, rfl, rfl⟩
theorem K88.tr {a b c : SG} (h1 : K88 a b) (h2 : K88 b c) : K88 a c := ⟨h2.1.trans h1.1, h2.2.1.trans h1.2.1, h2.2.2.1.trans h1.2.2.1, h2.2.2.2.trans h1.2.2.2⟩
def PF (σ σ' : SG) : Prop := Fr [88, 92, 93] σ σ' ∧ K88 σ σ'
theorem PF.rf {σ : SG} : PF σ σ := ⟨Fr.rf, K88.rf⟩
theorem PF.tr {a b c : SG} (h1 : PF a b) (h2 : PF b c) : PF a c := ⟨h1.1.tr h2.1, h1.2.tr h2.2⟩
def bnM : List Int → Nat
  | [] => 0
  | s :: ss => bnM ss + (if s < 1000 then 1 else 0)
def sgR (ss : List Int) : Prop := ∀ s ∈ ss, 0 ≤ s ∧ s ≤ 1002
theorem sgR.tl {s : Int} {ss : List Int} (h : sgR (s :: ss)) : sgR ss := fun x q => h x (List.mem_cons_of_mem _ q)
/-- digits from a place on, read as a number -/
def dvS (T : Int → Int) (p : Int) : Nat → Int
  | 0 => 0
  | m + 1 => 10 * dvS T p m + (T (p + m) - 48)
def isD (c : Int) : Prop := 48 ≤ c ∧ c ≤ 57

set_option maxHeartbeats 4000000 in
set_option maxRecDepth 100000 in
theorem s_m_workOut {X : AX} {d : Nat} {σ : SG} (u : Int) (vs : List Int64) (a b : Int64) (s : Int) (ss : List Int) (p fl : Int) (hI : PsI σ u (b :: a :: vs) (s :: ss) p fl) (hB : isB s) (hvl : vs.length ≤ 60) (hsl : ss.length ≤ 120) : Ev X 0 0 d mX11_workOut 0 [some (rv 88), none, none, none, none, none, none] [] σ (QV (fun σ' => PsI σ' u (jnS s a b :: vs) ss p fl ∧ PF σ σ')) := by
  obtain ⟨nv, hnv⟩ : ∃ nv : Int, nv = ((b :: a :: vs).length : Int) := ⟨_, rfl⟩
  obtain ⟨ns, hns⟩ : ∃ ns : Int, ns = ((s :: ss).length : Int) := ⟨_, rfl⟩
  have h7 : σ.1 88 7 = nv := hI.2.2.2.1.trans hnv.symm
  have h9 : σ.1 88 9 = ns := hI.2.2.2.2.1.trans hns.symm
  rw [List.length_cons, List.length_cons] at hnv
  rw [List.length_cons] at hns
  have hk := hI.2.2.2.2.2
  have hb : σ.2 92 (nv - 1) = b := by rw [show nv - 1 = (((a :: vs).length : Nat) : Int) by rw [List.length_cons]; omega]; exact hk.1.1
  have ha : σ.2 92 ((nv - 1) - 1) = a := by rw [show (nv - 1) - 1 = (vs.length : Int) by omega]; exact hk.1.2.1
  have hs : σ.1 93 (ns - 1) = s := by rw [show ns - 1 = (ss.length : Int) by omega]; exact hk.2.1
  have hBc := (isB_iff s).mp hB
  refine e_aload_n (pc' := 1) dX11_workOut_0 rfl rfl ?_
  refine e_dup (pc' := 2) dX11_workOut_1 rfl rfl ?_
  refine e_getI (pc' := 5) (v := ns) dX11_workOut_2 rfl f_11_126 h_88 rfl h9 ?_
  refine e_iconst (pc' := 6) dX11_workOut_5 rfl ?_
  refine e_isub (pc' := 7) dX11_workOut_6 rfl ?_
  refine e_putI (pc' := 10) dX11_workOut_7 rfl f_11_126 h_88 rfl rfl rfl ?_
  refine e_aload_n (pc' := 11) dX11_workOut_10 rfl rfl ?_
  refine e_dup (pc' := 12) dX11_workOut_11 rfl rfl ?_
  refine e_getI (pc' := 15) (v := nv) dX11_workOut_12 rfl f_11_129 h_88 rfl h7 ?_
  refine e_iconst (pc' := 16) dX11_workOut_15 rfl ?_
  refine e_isub (pc' := 17) dX11_workOut_16 rfl ?_
  refine e_putI (pc' := 20) dX11_workOut_17 rfl f_11_129 h_88 rfl rfl rfl ?_
  refine e_aload_n (pc' := 21) dX11_workOut_20 rfl rfl ?_
  refine e_getR (pc' := 24) dX11_workOut_21 rfl f_11_20 h_88 rfl ?_
  refine e_aload_n (pc' := 25) dX11_workOut_24 rfl rfl ?_
  refine e_getI (pc' := 28) (v := (nv - 1)) dX11_workOut_25 rfl f_11_129 h_88 rfl rfl ?_
  refine e_iconst (pc' := 29) dX11_workOut_28 rfl ?_
  refine e_isub (pc' := 30) dX11_workOut_29 rfl ?_
  refine e_lald (pc' := 31) (v := a) dX11_workOut_30 rfl h_92 (by decide) (by omega) (by omega) ha ?_
  refine e_lstore_n (pc' := 32) (L' := [some (rv 88), some (jv a), none, none, none, none, none]) dX11_workOut_31 rfl (by decide) rfl ?_
  refine e_aload_n (pc' := 33) dX11_workOut_32 rfl rfl ?_
  refine e_getR (pc' := 36) dX11_workOut_33 rfl f_11_20 h_88 rfl ?_
  refine e_aload_n (pc' := 37) dX11_workOut_36 rfl rfl ?_
  refine e_getI (pc' := 40) (v := (nv - 1)) dX11_workOut_37 rfl f_11_129 h_88 rfl rfl ?_
  refine e_lald (pc' := 41) (v := b) dX11_workOut_40 rfl h_92 (by decide) (by omega) (by omega) hb ?_
  refine e_lstore_n (pc' := 42) (L' := [some (rv 88), some (jv a), none, some (jv b), none, none, none]) dX11_workOut_41 rfl (by decide) rfl ?_
  refine e_lconst (pc' := 43) (z := 0) dX11_workOut_42 rfl rfl ?_
  refine e_lstore (pc' := 45) (L' := [some (rv 88), some (jv a), none, some (jv b), none, some (jv 0), none]) dX11_workOut_43 rfl (by decide) rfl ?_
  refine e_aload_n (pc' := 46) dX11_workOut_45 rfl rfl ?_
  refine e_getR (pc' := 49) dX11_workOut_46 rfl f_11_24 h_88 rfl ?_
  refine e_aload_n (pc' := 50) dX11_workOut_49 rfl rfl ?_
  refine e_getI (pc' := 53) (v := (ns - 1)) dX11_workOut_50 rfl f_11_126 h_88 rfl rfl ?_
  refine e_iald (pc' := 54) (v := s) dX11_workOut_53 rfl h_93 (by decide) (by omega) (by omega) hs ?_
  by_cases k2_1 : s = 38
  · refine e_lookup (pc' := 150) (off := 96) dX11_workOut_54 ⟨by omega, by omega⟩ (by decide) (by rw [k2_1]; rfl) (by decide) ?_
    refine e_lload_n (pc' := 151) dX11_workOut_150 rfl rfl ?_
    refine e_lconst (pc' := 152) (z := 0) dX11_workOut_151 rfl rfl ?_
    refine e_lcmp (pc' := 153) dX11_workOut_152 rfl ?_
    refine e_ifJ (pc' := 156) (t := 166) dX11_workOut_153 (by decide) rfl (fun (c4_2 : (a : Int64) = 0) => ?_) (fun (c4_2 : ¬ ((a : Int64) = 0)) => ?_)
    · refine e_lconst (pc' := 167) (z := 0) dX11_workOut_166 rfl rfl ?_
      refine e_lstore (pc' := 169) (L' := [some (rv 88), some (jv a), none, some (jv b), none, some (jv 0), none]) dX11_workOut_167 rfl (by decide) rfl ?_
      refine e_goto (pc' := 259) dX11_workOut_169 (by decide) ?_
      refine e_aload_n (pc' := 260) dX11_workOut_259 rfl rfl ?_
      refine e_getR (pc' := 263) dX11_workOut_260 rfl f_11_20 h_88 rfl ?_
      refine e_aload_n (pc' := 264) dX11_workOut_263 rfl rfl ?_
      refine e_getI (pc' := 267) (v := (nv - 1)) dX11_workOut_264 rfl f_11_129 h_88 rfl rfl ?_
      refine e_iconst (pc' := 268) dX11_workOut_267 rfl ?_
      refine e_isub (pc' := 269) dX11_workOut_268 rfl ?_
      refine e_lload (pc' := 271) dX11_workOut_269 rfl rfl ?_
      refine e_last (pc' := 272) dX11_workOut_271 rfl h_92 (by decide) (by omega) (by omega) ?_
      exact e_vret dX11_workOut_272 rfl ⟨rfl, Nat.le_refl _⟩ ⟨rfl, by have e : jnS s a b = 0 := (by simp_all [jnS]); rw [e]; exact ⟨hI.1, hI.2.1, hI.2.2.1, by show nv - 1 = ((_ :: vs).length : Int); rw [List.length_cons]; omega, by show ns - 1 = (ss.length : Int); omega, ⟨if_pos ⟨rfl, by omega⟩, isStk_upJ (σ := σ) (q := 92) (by omega) hI.2.2.2.2.2.1.2.2⟩, hI.2.2.2.2.2.2.2⟩, ⟨(by repeat (first | exact Fr.rf | assumption | (refine fr_I ?_ (by decide)) | (refine fr_J ?_ (by decide)) | (refine fr_C ?_ (by decide)))), ⟨rfl, rfl, rfl, rfl⟩⟩⟩
    · refine e_lload_n (pc' := 157) dX11_workOut_156 rfl rfl ?_
      refine e_lconst (pc' := 158) (z := 0) dX11_workOut_157 rfl rfl ?_
      refine e_lcmp (pc' := 159) dX11_workOut_158 rfl ?_
      refine e_ifJ (pc' := 162) (t := 166) dX11_workOut_159 (by decide) rfl (fun (c6_3 : (b : Int64) = 0) => ?_) (fun (c6_3 : ¬ ((b : Int64) = 0)) => ?_)
      · refine e_lconst (pc' := 167) (z := 0) dX11_workOut_166 rfl rfl ?_
        refine e_lstore (pc' := 169) (L' := [some (rv 88), some (jv a), none, some (jv b), none, some (jv 0), none]) dX11_workOut_167 rfl (by decide) rfl ?_
        refine e_goto (pc' := 259) dX11_workOut_169 (by decide) ?_
        refine e_aload_n (pc' := 260) dX11_workOut_259 rfl rfl ?_
        refine e_getR (pc' := 263) dX11_workOut_260 rfl f_11_20 h_88 rfl ?_
        refine e_aload_n (pc' := 264) dX11_workOut_263 rfl rfl ?_
        refine e_getI (pc' := 267) (v := (nv - 1)) dX11_workOut_264 rfl f_11_129 h_88 rfl rfl ?_
        refine e_iconst (pc' := 268) dX11_workOut_267 rfl ?_
        refine e_isub (pc' := 269) dX11_workOut_268 rfl ?_
        refine e_lload (pc' := 271) dX11_workOut_269 rfl rfl ?_
        refine e_last (pc' := 272) dX11_workOut_271 rfl h_92 (by decide) (by omega) (by omega) ?_
        exact e_vret dX11_workOut_272 rfl ⟨rfl, Nat.le_refl _⟩ ⟨rfl, by have e : jnS s a b = 0 := (by simp_all [jnS]); rw [e]; exact ⟨hI.1, hI.2.1, hI.2.2.1, by show nv - 1 = ((_ :: vs).length : Int); rw [List.length_cons]; omega, by show ns - 1 = (ss.length : Int); omega, ⟨if_pos ⟨rfl, by omega⟩, isStk_upJ (σ := σ) (q := 92) (by omega) hI.2.2.2.2.2.1.2.2⟩, hI.2.2.2.2.2.2.2⟩, ⟨(by repeat (first | exact Fr.rf | assumption | (refine fr_I ?_ (by decide)) | (refine fr_J ?_ (by decide)) | (refine fr_C ?_ (by decide)))), ⟨rfl, rfl, rfl, rfl⟩⟩⟩
      · refine e_lconst (pc' := 163) (z := 1) dX11_workOut_162 rfl rfl ?_
        refine e_goto (pc' := 167) dX11_workOut_163 (by decide) ?_
        refine e_lstore (pc' := 169) (L' := [some (rv 88), some (jv a), none, some (jv b), none, some (jv 1), none]) dX11_workOut_167 rfl (by decide) rfl ?_
        refine e_goto (pc' := 259) dX11_workOut_169 (by decide) ?_
        refine e_aload_n (pc' := 260) dX11_workOut_259 rfl rfl ?_
        refine e_getR (pc' := 263) dX11_workOut_260 rfl f_11_20 h_88 rfl ?_
        refine e_aload_n (pc' := 264) dX11_workOut_263 rfl rfl ?_
        refine e_getI (pc' := 267) (v := (nv - 1)) dX11_workOut_264 rfl f_11_129 h_88 rfl rfl ?_
        refine e_iconst (pc' := 268) dX11_workOut_267 rfl ?_
        refine e_isub (pc' := 269) dX11_workOut_268 rfl ?_
        refine e_lload (pc' := 271) dX11_workOut_269 rfl rfl ?_
        refine e_last (pc' := 272) dX11_workOut_271 rfl h_92 (by decide) (by omega) (by omega) ?_
        exact e_vret dX11_workOut_272 rfl ⟨rfl, Nat.le_refl _⟩ ⟨rfl, by have e : jnS s a b = 1 := (by simp_all [jnS]); rw [e]; exact ⟨hI.1, hI.2.1, hI.2.2.1, by show nv - 1 = ((_ :: vs).length : Int); rw [List.length_cons]; omega, by show ns - 1 = (ss.length : Int); omega, ⟨if_pos ⟨rfl, by omega⟩, isStk_upJ (σ := σ) (q := 92) (by omega) hI.2.2.2.2.2.1.2.2⟩, hI.2.2.2.2.2.2.2⟩, ⟨(by repeat (first | exact Fr.rf | assumption | (refine fr_I ?_ (by decide)) | (refine fr_J ?_ (by decide)) | (refine fr_C ?_ (by decide)))), ⟨rfl, rfl, rfl, rfl⟩⟩⟩
  by_cases k2_2 : s = 42
  · refine e_lookup (pc' := 236) (off := 182) dX11_workOut_54 ⟨by omega, by omega⟩ (by decide) (by rw [k2_2]; rfl) (by decide) ?_
    refine e_lload_n (pc' := 237) dX11_workOut_236 rfl rfl ?_
    refine e_lload_n (pc' := 238) dX11_workOut_237 rfl rfl ?_
    refine e_lmul (pc' := 239) dX11_workOut_238 rfl ?_
    refine e_lstore (pc' := 241) (L' := [some (rv 88), some (jv a), none, some (jv b), none, some (jv (a * b)), none]) dX11_workOut_239 rfl (by decide) rfl ?_
    refine e_goto (pc' := 259) dX11_workOut_241 (by decide) ?_
    refine e_aload_n (pc' := 260) dX11_workOut_259 rfl rfl ?_
    refine e_getR (pc' := 263) dX11_workOut_260 rfl f_11_20 h_88 rfl ?_
    refine e_aload_n (pc' := 264) dX11_workOut_263 rfl rfl ?_
    refine e_getI (pc' := 267) (v := (nv - 1)) dX11_workOut_264 rfl f_11_129 h_88 rfl rfl ?_
    refine e_iconst (pc' := 268) dX11_workOut_267 rfl ?_
    refine e_isub (pc' := 269) dX11_workOut_268 rfl ?_
    refine e_lload (pc' := 271) dX11_workOut_269 rfl rfl ?_
    refine e_last (pc' := 272) dX11_workOut_271 rfl h_92 (by decide) (by omega) (by omega) ?_
    exact e_vret dX11_workOut_272 rfl ⟨rfl, Nat.le_refl _⟩ ⟨rfl, by have e : jnS s a b = (a * b) := (by simp_all [jnS]); rw [e]; exact ⟨hI.1, hI.2.1, hI.2.2.1, by show nv - 1 = ((_ :: vs).length : Int); rw [List.length_cons]; omega, by show ns - 1 = (ss.length : Int); omega, ⟨if_pos ⟨rfl, by omega⟩, isStk_upJ (σ := σ) (q := 92) (by omega) hI.2.2.2.2.2.1.2.2⟩, hI.2.2.2.2.2.2.2⟩, ⟨(by repeat (first | exact Fr.rf | assumption | (refine fr_I ?_ (by decide)) | (refine fr_J ?_ (by decide)) | (refine fr_C ?_ (by decide)))), ⟨rfl, rfl, rfl, rfl⟩⟩⟩
  by_cases k2_3 : s = 43
  · refine e_lookup (pc' := 220) (off := 166) dX11_workOut_54 ⟨by omega, by omega⟩ (by decide) (by rw [k2_3]; rfl) (by decide) ?_
    refine e_lload_n (pc' := 221) dX11_workOut_220 rfl rfl ?_
    refine e_lload_n (pc' := 222) dX11_workOut_221 rfl rfl ?_
    refine e_ladd (pc' := 223) dX11_workOut_222 rfl ?_
    refine e_lstore (pc' := 225) (L' := [some (rv 88), some (jv a), none, some (jv b), none, some (jv (a + b)), none]) dX11_workOut_223 rfl (by decide) rfl ?_
    refine e_goto (pc' := 259) dX11_workOut_225 (by decide) ?_
    refine e_aload_n (pc' := 260) dX11_workOut_259 rfl rfl ?_
    refine e_getR (pc' := 263) dX11_workOut_260 rfl f_11_20 h_88 rfl ?_
    refine e_aload_n (pc' := 264) dX11_workOut_263 rfl rfl ?_
    refine e_getI (pc' := 267) (v := (nv - 1)) dX11_workOut_264 rfl f_11_129 h_88 rfl rfl ?_
    refine e_iconst (pc' := 268) dX11_workOut_267 rfl ?_
    refine e_isub (pc' := 269) dX11_workOut_268 rfl ?_
    refine e_lload (pc' := 271) dX11_workOut_269 rfl rfl ?_
    refine e_last (pc' := 272) dX11_workOut_271 rfl h_92 (by decide) (by omega) (by omega) ?_
    exact e_vret dX11_workOut_272 rfl ⟨rfl, Nat.le_refl _⟩ ⟨rfl, by have e : jnS s a b = (a + b) := (by simp_all [jnS]); rw [e]; exact ⟨hI.1, hI.2.1, hI.2.2.1, by show nv - 1 = ((_ :: vs).length : Int); rw [List.length_cons]; omega, by show ns - 1 = (ss.length : Int); omega, ⟨if_pos ⟨rfl, by omega⟩, isStk_upJ (σ := σ) (q := 92) (by omega) hI.2.2.2.2.2.1.2.2⟩, hI.2.2.2.2.2.2.2⟩, ⟨(by repeat (first | exact Fr.rf | assumption | (refine fr_I ?_ (by decide)) | (refine fr_J ?_ (by decide)) | (refine fr_C ?_ (by decide)))), ⟨rfl, rfl, rfl, rfl⟩⟩⟩
  by_cases k2_4 : s = 45
  · refine e_lookup (pc' := 228) (off := 174) dX11_workOut_54 ⟨by omega, by omega⟩ (by decide) (by rw [k2_4]; rfl) (by decide) ?_
    refine e_lload_n (pc' := 229) dX11_workOut_228 rfl rfl ?_
    refine e_lload_n (pc' := 230) dX11_workOut_229 rfl rfl ?_
    refine e_lsub (pc' := 231) dX11_workOut_230 rfl ?_
    refine e_lstore (pc' := 233) (L' := [some (rv 88), some (jv a), none, some (jv b), none, some (jv (a - b)), none]) dX11_workOut_231 rfl (by decide) rfl ?_
    refine e_goto (pc' := 259) dX11_workOut_233 (by decide) ?_
    refine e_aload_n (pc' := 260) dX11_workOut_259 rfl rfl ?_
    refine e_getR (pc' := 263) dX11_workOut_260 rfl f_11_20 h_88 rfl ?_
    refine e_aload_n (pc' := 264) dX11_workOut_263 rfl rfl ?_
    refine e_getI (pc' := 267) (v := (nv - 1)) dX11_workOut_264 rfl f_11_129 h_88 rfl rfl ?_
    refine e_iconst (pc' := 268) dX11_workOut_267 rfl ?_
    refine e_isub (pc' := 269) dX11_workOut_268 rfl ?_
    refine e_lload (pc' := 271) dX11_workOut_269 rfl rfl ?_
    refine e_last (pc' := 272) dX11_workOut_271 rfl h_92 (by decide) (by omega) (by omega) ?_
    exact e_vret dX11_workOut_272 rfl ⟨rfl, Nat.le_refl _⟩ ⟨rfl, by have e : jnS s a b = (a - b) := (by simp_all [jnS]); rw [e]; exact ⟨hI.1, hI.2.1, hI.2.2.1, by show nv - 1 = ((_ :: vs).length : Int); rw [List.length_cons]; omega, by show ns - 1 = (ss.length : Int); omega, ⟨if_pos ⟨rfl, by omega⟩, isStk_upJ (σ := σ) (q := 92) (by omega) hI.2.2.2.2.2.1.2.2⟩, hI.2.2.2.2.2.2.2⟩, ⟨(by repeat (first | exact Fr.rf | assumption | (refine fr_I ?_ (by decide)) | (refine fr_J ?_ (by decide)) | (refine fr_C ?_ (by decide)))), ⟨rfl, rfl, rfl, rfl⟩⟩⟩
  by_cases k2_5 : s = 60
  · refine e_lookup (pc' := 172) (off := 118) dX11_workOut_54 ⟨by omega, by omega⟩ (by decide) (by rw [k2_5]; rfl) (by decide) ?_
    refine e_lload_n (pc' := 173) dX11_workOut_172 rfl rfl ?_
    refine e_lload_n (pc' := 174) dX11_workOut_173 rfl rfl ?_
    refine e_lcmp (pc' := 175) dX11_workOut_174 rfl ?_
    refine e_ifJ (pc' := 178) (t := 182) dX11_workOut_175 (by decide) rfl (fun (c4_6 : b ≤ (a : Int64)) => ?_) (fun (c4_6 : ¬ (b ≤ (a : Int64))) => ?_)
    · refine e_lconst (pc' := 183) (z := 0) dX11_workOut_182 rfl rfl ?_
      refine e_lstore (pc' := 185) (L' := [some (rv 88), some (jv a), none, some (jv b), none, some (jv 0), none]) dX11_workOut_183 rfl (by decide) rfl ?_
      refine e_goto (pc' := 259) dX11_workOut_185 (by decide) ?_
      refine e_aload_n (pc' := 260) dX11_workOut_259 rfl rfl ?_
      refine e_getR (pc' := 263) dX11_workOut_260 rfl f_11_20 h_88 rfl ?_
      refine e_aload_n (pc' := 264) dX11_workOut_263 rfl rfl ?_
      refine e_getI (pc' := 267) (v := (nv - 1)) dX11_workOut_264 rfl f_11_129 h_88 rfl rfl ?_
      refine e_iconst (pc' := 268) dX11_workOut_267 rfl ?_
      refine e_isub (pc' := 269) dX11_workOut_268 rfl ?_
      refine e_lload (pc' := 271) dX11_workOut_269 rfl rfl ?_
      refine e_last (pc' := 272) dX11_workOut_271 rfl h_92 (by decide) (by omega) (by omega) ?_
      exact e_vret dX11_workOut_272 rfl ⟨rfl, Nat.le_refl _⟩ ⟨rfl, by have e : jnS s a b = 0 := (by simp_all [jnS]); rw [e]; exact ⟨hI.1, hI.2.1, hI.2.2.1, by show nv - 1 = ((_ :: vs).length : Int); rw [List.length_cons]; omega, by show ns - 1 = (ss.length : Int); omega, ⟨if_pos ⟨rfl, by omega⟩, isStk_upJ (σ := σ) (q := 92) (by omega) hI.2.2.2.2.2.1.2.2⟩, hI.2.2.2.2.2.2.2⟩, ⟨(by repeat (first | exact Fr.rf | assumption | (refine fr_I ?_ (by decide)) | (refine fr_J ?_ (by decide)) | (refine fr_C ?_ (by decide)))), ⟨rfl, rfl, rfl, rfl⟩⟩⟩
    · refine e_lconst (pc' := 179) (z := 1) dX11_workOut_178 rfl rfl ?_
      refine e_goto (pc' := 183) dX11_workOut_179 (by decide) ?_
      refine e_lstore (pc' := 185) (L' := [some (rv 88), some (jv a), none, some (jv b), none, some (jv 1), none]) dX11_workOut_183 rfl (by decide) rfl ?_
      refine e_goto (pc' := 259) dX11_workOut_185 (by decide) ?_
      refine e_aload_n (pc' := 260) dX11_workOut_259 rfl rfl ?_
      refine e_getR (pc' := 263) dX11_workOut_260 rfl f_11_20 h_88 rfl ?_
      refine e_aload_n (pc' := 264) dX11_workOut_263 rfl rfl ?_
      refine e_getI (pc' := 267) (v := (nv - 1)) dX11_workOut_264 rfl f_11_129 h_88 rfl rfl ?_
      refine e_iconst (pc' := 268) dX11_workOut_267 rfl ?_
      refine e_isub (pc' := 269) dX11_workOut_268 rfl ?_
      refine e_lload (pc' := 271) dX11_workOut_269 rfl rfl ?_
      refine e_last (pc' := 272) dX11_workOut_271 rfl h_92 (by decide) (by omega) (by omega) ?_
      exact e_vret dX11_workOut_272 rfl ⟨rfl, Nat.le_refl _⟩ ⟨rfl, by have e : jnS s a b = 1 := (by simp_all [jnS]); rw [e]; exact ⟨hI.1, hI.2.1, hI.2.2.1, by show nv - 1 = ((_ :: vs).length : Int); rw [List.length_cons]; omega, by show ns - 1 = (ss.length : Int); omega, ⟨if_pos ⟨rfl, by omega⟩, isStk_upJ (σ := σ) (q := 92) (by omega) hI.2.2.2.2.2.1.2.2⟩, hI.2.2.2.2.2.2.2⟩, ⟨(by repeat (first | exact Fr.rf | assumption | (refine fr_I ?_ (by decide)) | (refine fr_J ?_ (by decide)) | (refine fr_C ?_ (by decide)))), ⟨rfl, rfl, rfl, rfl⟩⟩⟩
  by_cases k2_6 : s = 61
  · refine e_lookup (pc' := 204) (off := 150) dX11_workOut_54 ⟨by omega, by omega⟩ (by decide) (by rw [k2_6]; rfl) (by decide) ?_
    refine e_lload_n (pc' := 205) dX11_workOut_204 rfl rfl ?_
    refine e_lload_n (pc' := 206) dX11_workOut_205 rfl rfl ?_
    refine e_lcmp (pc' := 207) dX11_workOut_206 rfl ?_
    refine e_ifJ (pc' := 210) (t := 214) dX11_workOut_207 (by decide) rfl (fun (c4_7 : (a : Int64) ≠ b) => ?_) (fun (c4_7 : ¬ ((a : Int64) ≠ b)) => ?_)
    · refine e_lconst (pc' := 215) (z := 0) dX11_workOut_214 rfl rfl ?_
      refine e_lstore (pc' := 217) (L' := [some (rv 88), some (jv a), none, some (jv b), none, some (jv 0), none]) dX11_workOut_215 rfl (by decide) rfl ?_
      refine e_goto (pc' := 259) dX11_workOut_217 (by decide) ?_
      refine e_aload_n (pc' := 260) dX11_workOut_259 rfl rfl ?_
      refine e_getR (pc' := 263) dX11_workOut_260 rfl f_11_20 h_88 rfl ?_
      refine e_aload_n (pc' := 264) dX11_workOut_263 rfl rfl ?_
      refine e_getI (pc' := 267) (v := (nv - 1)) dX11_workOut_264 rfl f_11_129 h_88 rfl rfl ?_
      refine e_iconst (pc' := 268) dX11_workOut_267 rfl ?_
      refine e_isub (pc' := 269) dX11_workOut_268 rfl ?_
      refine e_lload (pc' := 271) dX11_workOut_269 rfl rfl ?_
      refine e_last (pc' := 272) dX11_workOut_271 rfl h_92 (by decide) (by omega) (by omega) ?_
      exact e_vret dX11_workOut_272 rfl ⟨rfl, Nat.le_refl _⟩ ⟨rfl, by have e : jnS s a b = 0 := (by simp_all [jnS]); rw [e]; exact ⟨hI.1, hI.2.1, hI.2.2.1, by show nv - 1 = ((_ :: vs).length : Int); rw [List.length_cons]; omega, by show ns - 1 = (ss.length : Int); omega, ⟨if_pos ⟨rfl, by omega⟩, isStk_upJ (σ := σ) (q := 92) (by omega) hI.2.2.2.2.2.1.2.2⟩, hI.2.2.2.2.2.2.2⟩, ⟨(by repeat (first | exact Fr.rf | assumption | (refine fr_I ?_ (by decide)) | (refine fr_J ?_ (by decide)) | (refine fr_C ?_ (by decide)))), ⟨rfl, rfl, rfl, rfl⟩⟩⟩
    · refine e_lconst (pc' := 211) (z := 1) dX11_workOut_210 rfl rfl ?_
      refine e_goto (pc' := 215) dX11_workOut_211 (by decide) ?_
      refine e_lstore (pc' := 217) (L' := [some (rv 88), some (jv a), none, some (jv b), none, some (jv 1), none]) dX11_workOut_215 rfl (by decide) rfl ?_
      refine e_goto (pc' := 259) dX11_workOut_217 (by decide) ?_
      refine e_aload_n (pc' := 260) dX11_workOut_259 rfl rfl ?_
      refine e_getR (pc' := 263) dX11_workOut_260 rfl f_11_20 h_88 rfl ?_
      refine e_aload_n (pc' := 264) dX11_workOut_263 rfl rfl ?_
      refine e_getI (pc' := 267) (v := (nv - 1)) dX11_workOut_264 rfl f_11_129 h_88 rfl rfl ?_
      refine e_iconst (pc' := 268) dX11_workOut_267 rfl ?_
      refine e_isub (pc' := 269) dX11_workOut_268 rfl ?_
      refine e_lload (pc' := 271) dX11_workOut_269 rfl rfl ?_
      refine e_last (pc' := 272) dX11_workOut_271 rfl h_92 (by decide) (by omega) (by omega) ?_
      exact e_vret dX11_workOut_272 rfl ⟨rfl, Nat.le_refl _⟩ ⟨rfl, by have e : jnS s a b = 1 := (by simp_all [jnS]); rw [e]; exact ⟨hI.1, hI.2.1, hI.2.2.1, by show nv - 1 = ((_ :: vs).length : Int); rw [List.length_cons]; omega, by show ns - 1 = (ss.length : Int); omega, ⟨if_pos ⟨rfl, by omega⟩, isStk_upJ (σ := σ) (q := 92) (by omega) hI.2.2.2.2.2.1.2.2⟩, hI.2.2.2.2.2.2.2⟩, ⟨(by repeat (first | exact Fr.rf | assumption | (refine fr_I ?_ (by decide)) | (refine fr_J ?_ (by decide)) | (refine fr_C ?_ (by decide)))), ⟨rfl, rfl, rfl, rfl⟩⟩⟩
  by_cases k2_7 : s = 62
  · refine e_lookup (pc' := 188) (off := 134) dX11_workOut_54 ⟨by omega, by omega⟩ (by decide) (by rw [k2_7]; rfl) (by decide) ?_
    refine e_lload_n (pc' := 189) dX11_workOut_188 rfl rfl ?_
    refine e_lload_n (pc' := 190) dX11_workOut_189 rfl rfl ?_
    refine e_lcmp (pc' := 191) dX11_workOut_190 rfl ?_
    refine e_ifJ (pc' := 194) (t := 198) dX11_workOut_191 (by decide) rfl (fun (c4_8 : (a : Int64) ≤ b) => ?_) (fun (c4_8 : ¬ ((a : Int64) ≤ b)) => ?_)
    · refine e_lconst (pc' := 199) (z := 0) dX11_workOut_198 rfl rfl ?_
      refine e_lstore (pc' := 201) (L' := [some (rv 88), some (jv a), none, some (jv b), none, some (jv 0), none]) dX11_workOut_199 rfl (by decide) rfl ?_
      refine e_goto (pc' := 259) dX11_workOut_201 (by decide) ?_
      refine e_aload_n (pc' := 260) dX11_workOut_259 rfl rfl ?_
      refine e_getR (pc' := 263) dX11_workOut_260 rfl f_11_20 h_88 rfl ?_
      refine e_aload_n (pc' := 264) dX11_workOut_263 rfl rfl ?_
      refine e_getI (pc' := 267) (v := (nv - 1)) dX11_workOut_264 rfl f_11_129 h_88 rfl rfl ?_
      refine e_iconst (pc' := 268) dX11_workOut_267 rfl ?_
      refine e_isub (pc' := 269) dX11_workOut_268 rfl ?_
      refine e_lload (pc' := 271) dX11_workOut_269 rfl rfl ?_
      refine e_last (pc' := 272) dX11_workOut_271 rfl h_92 (by decide) (by omega) (by omega) ?_
      exact e_vret dX11_workOut_272 rfl ⟨rfl, Nat.le_refl _⟩ ⟨rfl, by have e : jnS s a b = 0 := (by simp_all [jnS]); rw [e]; exact ⟨hI.1, hI.2.1, hI.2.2.1, by show nv - 1 = ((_ :: vs).length : Int); rw [List.length_cons]; omega, by show ns - 1 = (ss.length : Int); omega, ⟨if_pos ⟨rfl, by omega⟩, isStk_upJ (σ := σ) (q := 92) (by omega) hI.2.2.2.2.2.1.2.2⟩, hI.2.2.2.2.2.2.2⟩, ⟨(by repeat (first | exact Fr.rf | assumption | (refine fr_I ?_ (by decide)) | (refine fr_J ?_ (by decide)) | (refine fr_C ?_ (by decide)))), ⟨rfl, rfl, rfl, rfl⟩⟩⟩
    · refine e_lconst (pc' := 195) (z := 1) dX11_workOut_194 rfl rfl ?_
      refine e_goto (pc' := 199) dX11_workOut_195 (by decide) ?_
      refine e_lstore (pc' := 201) (L' := [some (rv 88), some (jv a), none, some (jv b), none, some (jv 1), none]) dX11_workOut_199 rfl (by decide) rfl ?_
      refine e_goto (pc' := 259) dX11_workOut_201 (by decide) ?_
      refine e_aload_n (pc' := 260) dX11_workOut_259 rfl rfl ?_
      refine e_getR (pc' := 263) dX11_workOut_260 rfl f_11_20 h_88 rfl ?_
      refine e_aload_n (pc' := 264) dX11_workOut_263 rfl rfl ?_
      refine e_getI (pc' := 267) (v := (nv - 1)) dX11_workOut_264 rfl f_11_129 h_88 rfl rfl ?_
      refine e_iconst (pc' := 268) dX11_workOut_267 rfl ?_
      refine e_isub (pc' := 269) dX11_workOut_268 rfl ?_
      refine e_lload (pc' := 271) dX11_workOut_269 rfl rfl ?_
      refine e_last (pc' := 272) dX11_workOut_271 rfl h_92 (by decide) (by omega) (by omega) ?_
      exact e_vret dX11_workOut_272 rfl ⟨rfl, Nat.le_refl _⟩ ⟨rfl, by have e : jnS s a b = 1 := (by simp_all [jnS]); rw [e]; exact ⟨hI.1, hI.2.1, hI.2.2.1, by show nv - 1 = ((_ :: vs).length : Int); rw [List.length_cons]; omega, by show ns - 1 = (ss.length : Int); omega, ⟨if_pos ⟨rfl, by omega⟩, isStk_upJ (σ := σ) (q := 92) (by omega) hI.2.2.2.2.2.1.2.2⟩, hI.2.2.2.2.2.2.2⟩, ⟨(by repeat (first | exact Fr.rf | assumption | (refine fr_I ?_ (by decide)) | (refine fr_J ?_ (by decide)) | (refine fr_C ?_ (by decide)))), ⟨rfl, rfl, rfl, rfl⟩⟩⟩
  by_cases k2_8 : s = 124
  · refine e_lookup (pc' := 128) (off := 74) dX11_workOut_54 ⟨by omega, by omega⟩ (by decide) (by rw [k2_8]; rfl) (by decide) ?_
    refine e_lload_n (pc' := 129) dX11_workOut_128 rfl rfl ?_
    refine e_lconst (pc' := 130) (z := 0) dX11_workOut_129 rfl rfl ?_
    refine e_lcmp (pc' := 131) dX11_workOut_130 rfl ?_
    refine e_ifJ (pc' := 134) (t := 140) dX11_workOut_131 (by decide) rfl (fun (c4_9 : (a : Int64) ≠ 0) => ?_) (fun (c4_9 : ¬ ((a : Int64) ≠ 0)) => ?_)
    · refine e_lconst (pc' := 141) (z := 1) dX11_workOut_140 rfl rfl ?_
      refine e_goto (pc' := 145) dX11_workOut_141 (by decide) ?_
      refine e_lstore (pc' := 147) (L' := [some (rv 88), some (jv a), none, some (jv b), none, some (jv 1), none]) dX11_workOut_145 rfl (by decide) rfl ?_
      refine e_goto (pc' := 259) dX11_workOut_147 (by decide) ?_
      refine e_aload_n (pc' := 260) dX11_workOut_259 rfl rfl ?_
      refine e_getR (pc' := 263) dX11_workOut_260 rfl f_11_20 h_88 rfl ?_
      refine e_aload_n (pc' := 264) dX11_workOut_263 rfl rfl ?_
      refine e_getI (pc' := 267) (v := (nv - 1)) dX11_workOut_264 rfl f_11_129 h_88 rfl rfl ?_
      refine e_iconst (pc' := 268) dX11_workOut_267 rfl ?_
      refine e_isub (pc' := 269) dX11_workOut_268 rfl ?_
      refine e_lload (pc' := 271) dX11_workOut_269 rfl rfl ?_
      refine e_last (pc' := 272) dX11_workOut_271 rfl h_92 (by decide) (by omega) (by omega) ?_
      exact e_vret dX11_workOut_272 rfl ⟨rfl, Nat.le_refl _⟩ ⟨rfl, by have e : jnS s a b = 1 := (by simp_all [jnS]); rw [e]; exact ⟨hI.1, hI.2.1, hI.2.2.1, by show nv - 1 = ((_ :: vs).length : Int); rw [List.length_cons]; omega, by show ns - 1 = (ss.length : Int); omega, ⟨if_pos ⟨rfl, by omega⟩, isStk_upJ (σ := σ) (q := 92) (by omega) hI.2.2.2.2.2.1.2.2⟩, hI.2.2.2.2.2.2.2⟩, ⟨(by repeat (first | exact Fr.rf | assumption | (refine fr_I ?_ (by decide)) | (refine fr_J ?_ (by decide)) | (refine fr_C ?_ (by decide)))), ⟨rfl, rfl, rfl, rfl⟩⟩⟩
    · refine e_lload_n (pc' := 135) dX11_workOut_134 rfl rfl ?_
      refine e_lconst (pc' := 136) (z := 0) dX11_workOut_135 rfl rfl ?_
      refine e_lcmp (pc' := 137) dX11_workOut_136 rfl ?_
      refine e_ifJ (pc' := 140) (t := 144) dX11_workOut_137 (by decide) rfl (fun (c6_10 : (b : Int64) = 0) => ?_) (fun (c6_10 : ¬ ((b : Int64) = 0)) => ?_)
      · refine e_lconst (pc' := 145) (z := 0) dX11_workOut_144 rfl rfl ?_
        refine e_lstore (pc' := 147) (L' := [some (rv 88), some (jv a), none, some (jv b), none, some (jv 0), none]) dX11_workOut_145 rfl (by decide) rfl ?_
        refine e_goto (pc' := 259) dX11_workOut_147 (by decide) ?_
        refine e_aload_n (pc' := 260) dX11_workOut_259 rfl rfl ?_
        refine e_getR (pc' := 263) dX11_workOut_260 rfl f_11_20 h_88 rfl ?_
        refine e_aload_n (pc' := 264) dX11_workOut_263 rfl rfl ?_
        refine e_getI (pc' := 267) (v := (nv - 1)) dX11_workOut_264 rfl f_11_129 h_88 rfl rfl ?_
        refine e_iconst (pc' := 268) dX11_workOut_267 rfl ?_
        refine e_isub (pc' := 269) dX11_workOut_268 rfl ?_
        refine e_lload (pc' := 271) dX11_workOut_269 rfl rfl ?_
        refine e_last (pc' := 272) dX11_workOut_271 rfl h_92 (by decide) (by omega) (by omega) ?_
        exact e_vret dX11_workOut_272 rfl ⟨rfl, Nat.le_refl _⟩ ⟨rfl, by have e : jnS s a b = 0 := (by simp_all [jnS]); rw [e]; exact ⟨hI.1, hI.2.1, hI.2.2.1, by show nv - 1 = ((_ :: vs).length : Int); rw [List.length_cons]; omega, by show ns - 1 = (ss.length : Int); omega, ⟨if_pos ⟨rfl, by omega⟩, isStk_upJ (σ := σ) (q := 92) (by omega) hI.2.2.2.2.2.1.2.2⟩, hI.2.2.2.2.2.2.2⟩, ⟨(by repeat (first | exact Fr.rf | assumption | (refine fr_I ?_ (by decide)) | (refine fr_J ?_ (by decide)) | (refine fr_C ?_ (by decide)))), ⟨rfl, rfl, rfl, rfl⟩⟩⟩
      · refine e_lconst (pc' := 141) (z := 1) dX11_workOut_140 rfl rfl ?_
        refine e_goto (pc' := 145) dX11_workOut_141 (by decide) ?_
        refine e_lstore (pc' := 147) (L' := [some (rv 88), some (jv a), none, some (jv b), none, some (jv 1), none]) dX11_workOut_145 rfl (by decide) rfl ?_
        refine e_goto (pc' := 259) dX11_workOut_147 (by decide) ?_
        refine e_aload_n (pc' := 260) dX11_workOut_259 rfl rfl ?_
        refine e_getR (pc' := 263) dX11_workOut_260 rfl f_11_20 h_88 rfl ?_
        refine e_aload_n (pc' := 264) dX11_workOut_263 rfl rfl ?_
        refine e_getI (pc' := 267) (v := (nv - 1)) dX11_workOut_264 rfl f_11_129 h_88 rfl rfl ?_
        refine e_iconst (pc' := 268) dX11_workOut_267 rfl ?_
        refine e_isub (pc' := 269) dX11_workOut_268 rfl ?_
        refine e_lload (pc' := 271) dX11_workOut_269 rfl rfl ?_
        refine e_last (pc' := 272) dX11_workOut_271 rfl h_92 (by decide) (by omega) (by omega) ?_
        exact e_vret dX11_workOut_272 rfl ⟨rfl, Nat.le_refl _⟩ ⟨rfl, by have e : jnS s a b = 1 := (by simp_all [jnS]); rw [e]; exact ⟨hI.1, hI.2.1, hI.2.2.1, by show nv - 1 = ((_ :: vs).length : Int); rw [List.length_cons]; omega, by show ns - 1 = (ss.length : Int); omega, ⟨if_pos ⟨rfl, by omega⟩, isStk_upJ (σ := σ) (q := 92) (by omega) hI.2.2.2.2.2.1.2.2⟩, hI.2.2.2.2.2.2.2⟩, ⟨(by repeat (first | exact Fr.rf | assumption | (refine fr_I ?_ (by decide)) | (refine fr_J ?_ (by decide)) | (refine fr_C ?_ (by decide)))), ⟨rfl, rfl, rfl, rfl⟩⟩⟩
  refine e_lookup (pc' := 244) (off := 190) dX11_workOut_54 ⟨by omega, by omega⟩ (by decide) (lk_none _ _ _ (by simp only [List.mem_cons, List.not_mem_nil, or_false, forall_eq_or_imp, forall_eq, ne_eq]; omega)) (by decide) ?_
  refine e_lload_n (pc' := 245) dX11_workOut_244 rfl rfl ?_
  refine e_lconst (pc' := 246) (z := 0) dX11_workOut_245 rfl rfl ?_
  refine e_lcmp (pc' := 247) dX11_workOut_246 rfl ?_
  refine e_ifJ (pc' := 250) (t := 254) dX11_workOut_247 (by decide) rfl (fun (c2_9 : (b : Int64) ≠ 0) => ?_) (fun (c2_9 : ¬ ((b : Int64) ≠ 0)) => ?_)
  · refine e_lload_n (pc' := 255) dX11_workOut_254 rfl rfl ?_
    refine e_lload_n (pc' := 256) dX11_workOut_255 rfl rfl ?_
    refine e_ldiv (pc' := 257) dX11_workOut_256 rfl (by assumption) ?_
    refine e_lstore (pc' := 259) (L' := [some (rv 88), some (jv a), none, some (jv b), none, some (jv (a / b)), none]) dX11_workOut_257 rfl (by decide) rfl ?_
    refine e_aload_n (pc' := 260) dX11_workOut_259 rfl rfl ?_
    refine e_getR (pc' := 263) dX11_workOut_260 rfl f_11_20 h_88 rfl ?_
    refine e_aload_n (pc' := 264) dX11_workOut_263 rfl rfl ?_
    refine e_getI (pc' := 267) (v := (nv - 1)) dX11_workOut_264 rfl f_11_129 h_88 rfl rfl ?_
    refine e_iconst (pc' := 268) dX11_workOut_267 rfl ?_
    refine e_isub (pc' := 269) dX11_workOut_268 rfl ?_
    refine e_lload (pc' := 271) dX11_workOut_269 rfl rfl ?_
    refine e_last (pc' := 272) dX11_workOut_271 rfl h_92 (by decide) (by omega) (by omega) ?_
    exact e_vret dX11_workOut_272 rfl ⟨rfl, Nat.le_refl _⟩ ⟨rfl, by have e : jnS s a b = (a / b) := (by simp_all [jnS]); rw [e]; exact ⟨hI.1, hI.2.1, hI.2.2.1, by show nv - 1 = ((_ :: vs).length : Int); rw [List.length_cons]; omega, by show ns - 1 = (ss.length : Int); omega, ⟨if_pos ⟨rfl, by omega⟩, isStk_upJ (σ := σ) (q := 92) (by omega) hI.2.2.2.2.2.1.2.2⟩, hI.2.2.2.2.2.2.2⟩, ⟨(by repeat (first | exact Fr.rf | assumption | (refine fr_I ?_ (by decide)) | (refine fr_J ?_ (by decide)) | (refine fr_C ?_ (by decide)))), ⟨rfl, rfl, rfl, rfl⟩⟩⟩
  · refine e_lconst (pc' := 251) (z := 0) dX11_workOut_250 rfl rfl ?_
    refine e_goto (pc' := 257) dX11_workOut_251 (by decide) ?_
    refine e_lstore (pc' := 259) (L' := [some (rv 88), some (jv a), none, some (jv b), none, some (jv 0), none]) dX11_workOut_257 rfl (by decide) rfl ?_
    refine e_aload_n (pc' := 260) dX11_workOut_259 rfl rfl ?_
    refine e_getR (pc' := 263) dX11_workOut_260 rfl f_11_20 h_88 rfl ?_
    refine e_aload_n (pc' := 264) dX11_workOut_263 rfl rfl ?_
    refine e_getI (pc' := 267) (v := (nv - 1)) dX11_workOut_264 rfl f_11_129 h_88 rfl rfl ?_
    refine e_iconst (pc' := 268) dX11_workOut_267 rfl ?_
    refine e_isub (pc' := 269) dX11_workOut_268 rfl ?_
    refine e_lload (pc' := 271) dX11_workOut_269 rfl rfl ?_
    refine e_last (pc' := 272) dX11_workOut_271 rfl h_92 (by decide) (by omega) (by omega) ?_
    exact e_vret dX11_workOut_272 rfl ⟨rfl, Nat.le_refl _⟩ ⟨rfl, by have e : jnS s a b = 0 := (by simp_all [jnS]); rw [e]; exact ⟨hI.1, hI.2.1, hI.2.2.1, by show nv - 1 = ((_ :: vs).length : Int); rw [List.length_cons]; omega, by show ns - 1 = (ss.length : Int); omega, ⟨if_pos ⟨rfl, by omega⟩, isStk_upJ (σ := σ) (q := 92) (by omega) hI.2.2.2.2.2.1.2.2⟩, hI.2.2.2.2.2.2.2⟩, ⟨(by repeat (first | exact Fr.rf | assumption | (refine fr_I ?_ (by decide)) | (refine fr_J ?_ (by decide)) | (refine fr_C ?_ (by decide)))), ⟨rfl, rfl, rfl, rfl⟩⟩⟩

set_option maxHeartbeats 4000000 in
set_option maxRecDepth 100000 in
theorem s_m_workDown {X : AX} {d : Nat} (u p fl k : Int) (hk : 1 ≤ k ∧ k ≤ 5) (ss : List Int) : ∀ (vs : List Int64) (σ : SG), PsI σ u vs ss p fl → sgR ss → bnM ss + 1 ≤ vs.length → vs.length ≤ 60 → ss.length ≤ 120 → Ev X 0 0 (d + 1) mX11_workDown 0 [some (rv 88), some (iv k)] [] σ (QV (fun σ' => PsI σ' u (wdM k ss vs).2 (wdM k ss vs).1 p fl ∧ PF σ σ')) := by
  have hk0 : rg k := ⟨by omega, by omega⟩
  induction ss with
  | nil =>
    intro vs σ hI hr hb hvl hsl
    have hl0 : ([] : List Int).length = 0 := rfl
    refine e_aload_n (pc' := 1) dX11_workDown_0 rfl rfl ?_
    refine e_getI (pc' := 4) (v := (([] : List Int).length : Int)) dX11_workDown_1 rfl f_11_126 h_88 rfl hI.2.2.2.2.1 ?_
    refine e_ifI (pc' := 7) (t := 49) dX11_workDown_4 (by decide) rfl ⟨by omega, by omega⟩ (fun (c4_1 : ((([] : List Int).length : Int) : Int) ≤ 0) => ?_) (fun (c4_1 : ¬ (((([] : List Int).length : Int) : Int) ≤ 0)) => absurd (show ((([] : List Int).length : Nat) : Int) ≤ 0 by decide) c4_1)
    exact e_vret dX11_workDown_49 rfl ⟨rfl, Nat.le_refl _⟩ ⟨rfl, hI, PF.rf⟩
  | cons s ss ih =>
    intro vs σ hI hr hb hvl hsl
    have hl : (s :: ss).length = ss.length + 1 := rfl
    obtain ⟨ns, hns⟩ : ∃ ns : Int, ns = ((s :: ss).length : Int) := ⟨_, rfl⟩
    have h9 : σ.1 88 9 = ns := hI.2.2.2.2.1.trans hns.symm
    have hs : σ.1 93 (ns - 1) = s := by rw [show ns - 1 = (ss.length : Int) by omega]; exact hI.2.2.2.2.2.2.1
    have hsr := hr s List.mem_cons_self
    refine e_aload_n (pc' := 1) dX11_workDown_0 rfl rfl ?_
    refine e_getI (pc' := 4) (v := ns) dX11_workDown_1 rfl f_11_126 h_88 rfl h9 ?_
    refine e_ifI (pc' := 7) (t := 49) dX11_workDown_4 (by decide) rfl (by first | exact hk0 | exact ⟨by have := rmS_rg s; omega, by have := rmS_rg s; omega⟩) (fun (c4_1 : (ns : Int) ≤ 0) => absurd c4_1 (show ¬ ns ≤ 0 by omega)) (fun (c4_1 : ¬ ((ns : Int) ≤ 0)) => ?_)
    refine e_aload_n (pc' := 8) dX11_workDown_7 rfl rfl ?_
    refine e_getR (pc' := 11) dX11_workDown_8 rfl f_11_24 h_88 rfl ?_
    refine e_aload_n (pc' := 12) dX11_workDown_11 rfl rfl ?_
    refine e_getI (pc' := 15) (v := ns) dX11_workDown_12 rfl f_11_126 h_88 rfl h9 ?_
    refine e_iconst (pc' := 16) dX11_workDown_15 rfl ?_
    refine e_isub (pc' := 17) dX11_workDown_16 rfl ?_
    refine e_iald (pc' := 18) (v := s) dX11_workDown_17 rfl h_93 (by decide) (by omega) (by omega) hs ?_
    refine e_sipush (pc' := 21) (z := 1000) dX11_workDown_18 rfl (by decide) ?_
    refine e_icmpI (pc' := 24) (t := 49) dX11_workDown_21 (by decide) rfl (by first | exact hk0 | exact ⟨by have := rmS_rg s; omega, by have := rmS_rg s; omega⟩) ⟨by omega, by omega⟩ (fun (c4_2 : 1000 ≤ (s : Int)) => ?_) (fun (c4_2 : ¬ (1000 ≤ (s : Int))) => ?_)
    · exact e_vret dX11_workDown_49 rfl ⟨rfl, Nat.le_refl _⟩ ⟨rfl, by have e : wdM k (s :: ss) vs = (s :: ss, vs) := (by show (if _ then _ else _) = _; rw [if_neg (by omega)]); rw [e]; exact hI, PF.rf⟩
    · refine e_aload_n (pc' := 25) dX11_workDown_24 rfl rfl ?_
      refine e_getR (pc' := 28) dX11_workDown_25 rfl f_11_24 h_88 rfl ?_
      refine e_aload_n (pc' := 29) dX11_workDown_28 rfl rfl ?_
      refine e_getI (pc' := 32) (v := ns) dX11_workDown_29 rfl f_11_126 h_88 rfl h9 ?_
      refine e_iconst (pc' := 33) dX11_workDown_32 rfl ?_
      refine e_isub (pc' := 34) dX11_workDown_33 rfl ?_
      refine e_iald (pc' := 35) (v := s) dX11_workDown_34 rfl h_93 (by decide) (by omega) (by omega) hs ?_
      refine e_cs1i (pc' := 38) dX11_workDown_35 rfl pn_11_132 k_11_132 (Nat.le_of_ble_eq_true rfl) rfl rfl ⟨rfl, rfl⟩ ⟨Nat.zero_le _, Nat.zero_le _⟩ (s_m_rank s ⟨by omega, by omega⟩) ?_
      intro r σ' hr; rw [hr.1, hr.2]; clear hr
      refine e_iload_n (pc' := 39) dX11_workDown_38 rfl rfl ?_
      refine e_icmpI (pc' := 42) (t := 49) dX11_workDown_39 (by decide) rfl (by first | exact hk0 | exact ⟨by have := rmS_rg s; omega, by have := rmS_rg s; omega⟩) (by first | exact hk0 | exact ⟨by have := rmS_rg s; omega, by have := rmS_rg s; omega⟩) (fun (c6_3 : ((rmS s) : Int) < k) => ?_) (fun (c6_3 : ¬ (((rmS s) : Int) < k)) => ?_)
      · exact e_vret dX11_workDown_49 rfl ⟨rfl, Nat.le_refl _⟩ ⟨rfl, by have e : wdM k (s :: ss) vs = (s :: ss, vs) := (by show (if _ then _ else _) = _; rw [if_neg (by omega)]); rw [e]; exact hI, PF.rf⟩
      · have hB : isB s := rm_B (by omega)
        have hbn : bnM (s :: ss) = bnM ss + 1 := by show bnM ss + (if s < 1000 then 1 else 0) = _; rw [if_pos (by omega)]
        match vs, hI, hb, hvl with
        | [], hI, hb, hvl => exact absurd hb (by rw [hbn]; show ¬ bnM ss + 1 + 1 ≤ 0; omega)
        | [b], hI, hb, hvl => exact absurd hb (by rw [hbn]; show ¬ bnM ss + 1 + 1 ≤ 1; omega)
        | b :: a :: vs2, hI, hb, hvl =>
          rw [List.length_cons, List.length_cons] at hb hvl
          have e : wdM k (s :: ss) (b :: a :: vs2) = wdM k ss (jnS s a b :: vs2) := if_pos ⟨by omega, by omega⟩
          rw [e]
          refine e_aload_n (pc' := 43) dX11_workDown_42 rfl rfl ?_
          refine e_cv0v (pc' := 46) dX11_workDown_43 rfl k_11_135 h_88 rfl (Nat.le_of_ble_eq_true rfl) rfl rfl ⟨rfl, rfl⟩ ⟨Nat.zero_le _, Nat.zero_le _⟩ (s_m_workOut u vs2 a b s ss p fl hI hB (by omega) (by omega)) ?_
          rintro τ2 ⟨hI2, hF2⟩
          refine e_goto (pc' := 0) dX11_workDown_46 (by decide) ?_
          refine (ih _ _ hI2 hr.tl (by rw [List.length_cons]; omega) (by rw [List.length_cons]; omega) (by omega)).imp ?_
          rintro v σ' ⟨hv, hr2, hF⟩
          exact ⟨hv, hr2, hF2.tr hF⟩

set_option maxHeartbeats 4000000 in
set_option maxRecDepth 100000 in
theorem l_m_stands {X : AX} {d : Nat} (u p fl : Int) (v : Int64) (vs : List Int64) (ss : List Int) : ∀ (w : Int64) (σ : SG), PsI σ u vs ss p fl → sgR ss → vs.length ≤ 60 → ss.length ≤ 120 → Ev X 0 0 d mX11_stands 2 [some (rv 88), some (jv v), none, some (jv w), none] [] σ (QV (fun σ' => PsI σ' u ((spM ss w).2 :: vs) (spM ss w).1 p fl ∧ PF σ σ')) := by
  induction ss with
  | nil =>
    intro w σ hI hr hvl hsl
    have hl0 : ([] : List Int).length = 0 := rfl
    refine e_aload_n (pc' := 3) dX11_stands_2 rfl rfl ?_
    refine e_getI (pc' := 6) (v := (([] : List Int).length : Int)) dX11_stands_3 rfl f_11_126 h_88 rfl hI.2.2.2.2.1 ?_
    refine e_ifI (pc' := 9) (t := 73) dX11_stands_6 (by decide) rfl ⟨by omega, by omega⟩ (fun (c4_1 : ((([] : List Int).length : Int) : Int) ≤ 0) => ?_) (fun (c4_1 : ¬ (((([] : List Int).length : Int) : Int) ≤ 0)) => absurd (show ((([] : List Int).length : Nat) : Int) ≤ 0 by decide) c4_1)
    refine e_aload_n (pc' := 74) dX11_stands_73 rfl rfl ?_
    refine e_getR (pc' := 77) dX11_stands_74 rfl f_11_20 h_88 rfl ?_
    refine e_aload_n (pc' := 78) dX11_stands_77 rfl rfl ?_
    refine e_getI (pc' := 81) (v := (vs.length : Int)) dX11_stands_78 rfl f_11_129 h_88 rfl hI.2.2.2.1 ?_
    refine e_lload_n (pc' := 82) dX11_stands_81 rfl rfl ?_
    refine e_last (pc' := 83) dX11_stands_82 rfl h_92 (by decide) (by omega) (by omega) ?_
    refine e_aload_n (pc' := 84) dX11_stands_83 rfl rfl ?_
    refine e_dup (pc' := 85) dX11_stands_84 rfl rfl ?_
    refine e_getI (pc' := 88) (v := (vs.length : Int)) dX11_stands_85 rfl f_11_129 h_88 rfl hI.2.2.2.1 ?_
    refine e_iconst (pc' := 89) dX11_stands_88 rfl ?_
    refine e_iadd (pc' := 90) dX11_stands_89 rfl ?_
    refine e_putI (pc' := 93) dX11_stands_90 rfl f_11_129 h_88 rfl rfl rfl ?_
    exact e_vret dX11_stands_93 rfl ⟨rfl, Nat.le_refl _⟩ ⟨rfl, by have e : spM [] w = ([], w) := (by first | rfl | (show (if _ then _ else _) = _; rw [if_neg (by omega)])); rw [e]; exact ⟨hI.1, hI.2.1, hI.2.2.1, by show (vs.length : Int) + 1 = ((w :: vs).length : Int); rw [List.length_cons]; omega, hI.2.2.2.2.1, ⟨if_pos ⟨rfl, rfl⟩, isStk_upJ (σ := σ) (q := 92) (Int.le_refl _) hI.2.2.2.2.2.1⟩, hI.2.2.2.2.2.2⟩, ⟨(by repeat (first | exact Fr.rf | assumption | (refine fr_I ?_ (by decide)) | (refine fr_J ?_ (by decide)) | (refine fr_C ?_ (by decide)))), ⟨rfl, rfl, rfl, rfl⟩⟩⟩
  | cons s ss ih =>
    intro w σ hI hr hvl hsl
    have hl : (s :: ss).length = ss.length + 1 := rfl
    obtain ⟨ns, hns⟩ : ∃ ns : Int, ns = ((s :: ss).length : Int) := ⟨_, rfl⟩
    have h9 : σ.1 88 9 = ns := hI.2.2.2.2.1.trans hns.symm
    have hs : σ.1 93 (ns - 1) = s := by rw [show ns - 1 = (ss.length : Int) by omega]; exact hI.2.2.2.2.2.2.1
    have hsr := hr s List.mem_cons_self
    refine e_aload_n (pc' := 3) dX11_stands_2 rfl rfl ?_
    refine e_getI (pc' := 6) (v := ns) dX11_stands_3 rfl f_11_126 h_88 rfl h9 ?_
    refine e_ifI (pc' := 9) (t := 73) dX11_stands_6 (by decide) rfl ⟨by omega, by omega⟩ (fun (c4_1 : (ns : Int) ≤ 0) => absurd c4_1 (show ¬ ns ≤ 0 by omega)) (fun (c4_1 : ¬ ((ns : Int) ≤ 0)) => ?_)
    refine e_aload_n (pc' := 10) dX11_stands_9 rfl rfl ?_
    refine e_getR (pc' := 13) dX11_stands_10 rfl f_11_24 h_88 rfl ?_
    refine e_aload_n (pc' := 14) dX11_stands_13 rfl rfl ?_
    refine e_getI (pc' := 17) (v := ns) dX11_stands_14 rfl f_11_126 h_88 rfl h9 ?_
    refine e_iconst (pc' := 18) dX11_stands_17 rfl ?_
    refine e_isub (pc' := 19) dX11_stands_18 rfl ?_
    refine e_iald (pc' := 20) (v := s) dX11_stands_19 rfl h_93 (by decide) (by omega) (by omega) hs ?_
    refine e_sipush (pc' := 23) (z := 1000) dX11_stands_20 rfl (by decide) ?_
    refine e_icmpI (pc' := 26) (t := 73) dX11_stands_23 (by decide) rfl ⟨by omega, by omega⟩ ⟨by omega, by omega⟩ (fun (c4_2 : (s : Int) ≤ 1000) => ?_) (fun (c4_2 : ¬ ((s : Int) ≤ 1000)) => ?_)
    · refine e_aload_n (pc' := 74) dX11_stands_73 rfl rfl ?_
      refine e_getR (pc' := 77) dX11_stands_74 rfl f_11_20 h_88 rfl ?_
      refine e_aload_n (pc' := 78) dX11_stands_77 rfl rfl ?_
      refine e_getI (pc' := 81) (v := (vs.length : Int)) dX11_stands_78 rfl f_11_129 h_88 rfl hI.2.2.2.1 ?_
      refine e_lload_n (pc' := 82) dX11_stands_81 rfl rfl ?_
      refine e_last (pc' := 83) dX11_stands_82 rfl h_92 (by decide) (by omega) (by omega) ?_
      refine e_aload_n (pc' := 84) dX11_stands_83 rfl rfl ?_
      refine e_dup (pc' := 85) dX11_stands_84 rfl rfl ?_
      refine e_getI (pc' := 88) (v := (vs.length : Int)) dX11_stands_85 rfl f_11_129 h_88 rfl hI.2.2.2.1 ?_
      refine e_iconst (pc' := 89) dX11_stands_88 rfl ?_
      refine e_iadd (pc' := 90) dX11_stands_89 rfl ?_
      refine e_putI (pc' := 93) dX11_stands_90 rfl f_11_129 h_88 rfl rfl rfl ?_
      exact e_vret dX11_stands_93 rfl ⟨rfl, Nat.le_refl _⟩ ⟨rfl, by have e : spM (s :: ss) w = ((s :: ss), w) := (by first | rfl | (show (if _ then _ else _) = _; rw [if_neg (by omega)])); rw [e]; exact ⟨hI.1, hI.2.1, hI.2.2.1, by show (vs.length : Int) + 1 = ((w :: vs).length : Int); rw [List.length_cons]; omega, hI.2.2.2.2.1, ⟨if_pos ⟨rfl, rfl⟩, isStk_upJ (σ := σ) (q := 92) (Int.le_refl _) hI.2.2.2.2.2.1⟩, hI.2.2.2.2.2.2⟩, ⟨(by repeat (first | exact Fr.rf | assumption | (refine fr_I ?_ (by decide)) | (refine fr_J ?_ (by decide)) | (refine fr_C ?_ (by decide)))), ⟨rfl, rfl, rfl, rfl⟩⟩⟩
    · refine e_aload_n (pc' := 27) dX11_stands_26 rfl rfl ?_
      refine e_getR (pc' := 30) dX11_stands_27 rfl f_11_24 h_88 rfl ?_
      refine e_aload_n (pc' := 31) dX11_stands_30 rfl rfl ?_
      refine e_getI (pc' := 34) (v := ns) dX11_stands_31 rfl f_11_126 h_88 rfl h9 ?_
      refine e_iconst (pc' := 35) dX11_stands_34 rfl ?_
      refine e_isub (pc' := 36) dX11_stands_35 rfl ?_
      refine e_iald (pc' := 37) (v := s) dX11_stands_36 rfl h_93 (by decide) (by omega) (by omega) hs ?_
      refine e_sipush (pc' := 40) (z := 1001) dX11_stands_37 rfl (by decide) ?_
      refine e_icmpI (pc' := 43) (t := 57) dX11_stands_40 (by decide) rfl ⟨by omega, by omega⟩ ⟨by omega, by omega⟩ (fun (c6_3 : (s : Int) ≠ 1001) => ?_) (fun (c6_3 : ¬ ((s : Int) ≠ 1001)) => ?_)
      · refine e_lload_n (pc' := 58) dX11_stands_57 rfl rfl ?_
        refine e_lneg (pc' := 59) dX11_stands_58 rfl ?_
        refine e_lstore_n (pc' := 60) (L' := [some (rv 88), some (jv v), none, some (jv (-w)), none]) dX11_stands_59 rfl (by decide) rfl ?_
        refine e_aload_n (pc' := 61) dX11_stands_60 rfl rfl ?_
        refine e_dup (pc' := 62) dX11_stands_61 rfl rfl ?_
        refine e_getI (pc' := 65) (v := ns) dX11_stands_62 rfl f_11_126 h_88 rfl h9 ?_
        refine e_iconst (pc' := 66) dX11_stands_65 rfl ?_
        refine e_isub (pc' := 67) dX11_stands_66 rfl ?_
        refine e_putI (pc' := 70) dX11_stands_67 rfl f_11_126 h_88 rfl rfl rfl ?_
        refine e_goto (pc' := 2) dX11_stands_70 (by decide) ?_
        have e : spM (s :: ss) w = spM ss (-w) := (by have e1 : (if s = 1001 then (if w = 0 then 1 else 0) else -w) = (-w) := (by simp_all); show (if 1000 < s then spM ss (if s = 1001 then (if w = 0 then 1 else 0) else -w) else _) = _; rw [if_pos (by omega), e1])
        rw [e]
        refine (ih (-w) (upI σ 88 9 (ns - 1)) ⟨hI.1, hI.2.1, hI.2.2.1, hI.2.2.2.1, by show ns - 1 = (ss.length : Int); omega, hI.2.2.2.2.2.1, hI.2.2.2.2.2.2.2⟩ hr.tl hvl (by omega)).imp ?_
        rintro v σ' ⟨hv, hr2, hF⟩
        exact ⟨hv, hr2, (show PF σ (upI σ 88 9 (ns - 1)) from ⟨(by repeat (first | exact Fr.rf | assumption | (refine fr_I ?_ (by decide)) | (refine fr_J ?_ (by decide)) | (refine fr_C ?_ (by decide)))), ⟨rfl, rfl, rfl, rfl⟩⟩).tr hF⟩
      · refine e_lload_n (pc' := 44) dX11_stands_43 rfl rfl ?_
        refine e_lconst (pc' := 45) (z := 0) dX11_stands_44 rfl rfl ?_
        refine e_lcmp (pc' := 46) dX11_stands_45 rfl ?_
        refine e_ifJ (pc' := 49) (t := 53) dX11_stands_46 (by decide) rfl (fun (c8_4 : (w : Int64) ≠ 0) => ?_) (fun (c8_4 : ¬ ((w : Int64) ≠ 0)) => ?_)
        · refine e_lconst (pc' := 54) (z := 0) dX11_stands_53 rfl rfl ?_
          refine e_goto (pc' := 59) dX11_stands_54 (by decide) ?_
          refine e_lstore_n (pc' := 60) (L' := [some (rv 88), some (jv v), none, some (jv 0), none]) dX11_stands_59 rfl (by decide) rfl ?_
          refine e_aload_n (pc' := 61) dX11_stands_60 rfl rfl ?_
          refine e_dup (pc' := 62) dX11_stands_61 rfl rfl ?_
          refine e_getI (pc' := 65) (v := ns) dX11_stands_62 rfl f_11_126 h_88 rfl h9 ?_
          refine e_iconst (pc' := 66) dX11_stands_65 rfl ?_
          refine e_isub (pc' := 67) dX11_stands_66 rfl ?_
          refine e_putI (pc' := 70) dX11_stands_67 rfl f_11_126 h_88 rfl rfl rfl ?_
          refine e_goto (pc' := 2) dX11_stands_70 (by decide) ?_
          have e : spM (s :: ss) w = spM ss 0 := (by have e1 : (if s = 1001 then (if w = 0 then 1 else 0) else -w) = 0 := (by simp_all); show (if 1000 < s then spM ss (if s = 1001 then (if w = 0 then 1 else 0) else -w) else _) = _; rw [if_pos (by omega), e1])
          rw [e]
          refine (ih 0 (upI σ 88 9 (ns - 1)) ⟨hI.1, hI.2.1, hI.2.2.1, hI.2.2.2.1, by show ns - 1 = (ss.length : Int); omega, hI.2.2.2.2.2.1, hI.2.2.2.2.2.2.2⟩ hr.tl hvl (by omega)).imp ?_
          rintro v σ' ⟨hv, hr2, hF⟩
          exact ⟨hv, hr2, (show PF σ (upI σ 88 9 (ns - 1)) from ⟨(by repeat (first | exact Fr.rf | assumption | (refine fr_I ?_ (by decide)) | (refine fr_J ?_ (by decide)) | (refine fr_C ?_ (by decide)))), ⟨rfl, rfl, rfl, rfl⟩⟩).tr hF⟩
        · refine e_lconst (pc' := 50) (z := 1) dX11_stands_49 rfl rfl ?_
          refine e_goto (pc' := 59) dX11_stands_50 (by decide) ?_
          refine e_lstore_n (pc' := 60) (L' := [some (rv 88), some (jv v), none, some (jv 1), none]) dX11_stands_59 rfl (by decide) rfl ?_
          refine e_aload_n (pc' := 61) dX11_stands_60 rfl rfl ?_
          refine e_dup (pc' := 62) dX11_stands_61 rfl rfl ?_
          refine e_getI (pc' := 65) (v := ns) dX11_stands_62 rfl f_11_126 h_88 rfl h9 ?_
          refine e_iconst (pc' := 66) dX11_stands_65 rfl ?_
          refine e_isub (pc' := 67) dX11_stands_66 rfl ?_
          refine e_putI (pc' := 70) dX11_stands_67 rfl f_11_126 h_88 rfl rfl rfl ?_
          refine e_goto (pc' := 2) dX11_stands_70 (by decide) ?_
          have e : spM (s :: ss) w = spM ss 1 := (by have e1 : (if s = 1001 then (if w = 0 then 1 else 0) else -w) = 1 := (by simp_all); show (if 1000 < s then spM ss (if s = 1001 then (if w = 0 then 1 else 0) else -w) else _) = _; rw [if_pos (by omega), e1])
          rw [e]
          refine (ih 1 (upI σ 88 9 (ns - 1)) ⟨hI.1, hI.2.1, hI.2.2.1, hI.2.2.2.1, by show ns - 1 = (ss.length : Int); omega, hI.2.2.2.2.2.1, hI.2.2.2.2.2.2.2⟩ hr.tl hvl (by omega)).imp ?_
          rintro v σ' ⟨hv, hr2, hF⟩
          exact ⟨hv, hr2, (show PF σ (upI σ 88 9 (ns - 1)) from ⟨(by repeat (first | exact Fr.rf | assumption | (refine fr_I ?_ (by decide)) | (refine fr_J ?_ (by decide)) | (refine fr_C ?_ (by decide)))), ⟨rfl, rfl, rfl, rfl⟩⟩).tr hF⟩

set_option maxHeartbeats 4000000 in
set_option maxRecDepth 100000 in
theorem s_m_stands {X : AX} {d : Nat} {σ : SG} (u p fl : Int) (v : Int64) (vs : List Int64) (ss : List Int) (hI : PsI σ u vs ss p fl) (hr : sgR ss) (hvl : vs.length ≤ 60) (hsl : ss.length ≤ 120) : Ev X 0 0 d mX11_stands 0 [some (rv 88), some (jv v), none, none, none] [] σ (QV (fun σ' => PsI σ' u ((spM ss v).2 :: vs) (spM ss v).1 p fl ∧ PF σ σ')) := by
  refine e_lload_n (pc' := 1) dX11_stands_0 rfl rfl ?_
  refine e_lstore_n (pc' := 2) (L' := [some (rv 88), some (jv v), none, some (jv v), none]) dX11_stands_1 rfl (by decide) rfl ?_
  exact l_m_stands u p fl v vs ss v σ hI hr hvl hsl

set_option maxHeartbeats 4000000 in
set_option maxRecDepth 100000 in
theorem s_m_ahead {X : AX} {d : Nat} (u n : Int) (T : Int → Int) (hu : 0 ≤ u ∧ u ≤ 2) (hn : 0 ≤ n ∧ n ≤ 40) (vs : List Int64) (ss : List Int) (fl : Int) : ∀ (k : Nat) (p : Int) (σ : SG), 0 ≤ p → p ≤ n → n - p < k → PsI σ u vs ss p fl → σ.1 89 (57 + 41 * u) = n → (∀ k, 0 ≤ k → k < n → σ.1 89 (57 + 41 * u + 1 + k) = T k ∧ chr7 (T k)) → Ev X 0 0 (d + 1) mX11_ahead 0 [some (rv 88)] [] σ (QI (fun r σ' => ∃ q, p ≤ q ∧ q ≤ n ∧ (∀ k, p ≤ k → k < q → T k = 32) ∧ ((q = n ∧ r = -1) ∨ (q < n ∧ T q ≠ 32 ∧ r = T q)) ∧ PsI σ' u vs ss q fl ∧ PF σ σ')) := by
  intro k
  induction k with
  | zero => intros; omega
  | succ k ih =>
  intro p σ hp0 hpn hpk hI htn htx
  refine e_aload_n (pc' := 1) dX11_ahead_0 rfl rfl ?_
  refine e_getI (pc' := 4) (v := p) dX11_ahead_1 rfl f_11_116 h_88 rfl hI.2.1 ?_
  refine e_aload_n (pc' := 5) dX11_ahead_4 rfl rfl ?_
  refine e_cv0i (pc' := 8) dX11_ahead_5 rfl k_11_119 h_88 rfl (Nat.le_of_ble_eq_true rfl) rfl rfl ⟨rfl, rfl⟩ ⟨Nat.zero_le _, Nat.zero_le _⟩ (s_m_textLong u hu hI.1) ?_
  intro r σ' hr; rw [hr.1, hr.2, htn]; clear hr
  refine e_icmpI (pc' := 11) (t := 37) dX11_ahead_8 (by decide) rfl ⟨by omega, by omega⟩ ⟨by omega, by omega⟩ (fun (c2_1 : n ≤ (p : Int)) => ?_) (fun (c2_1 : ¬ (n ≤ (p : Int))) => ?_)
  · refine e_aload_n (pc' := 38) dX11_ahead_37 rfl rfl ?_
    refine e_getI (pc' := 41) (v := p) dX11_ahead_38 rfl f_11_116 h_88 rfl hI.2.1 ?_
    refine e_aload_n (pc' := 42) dX11_ahead_41 rfl rfl ?_
    refine e_cv0i (pc' := 45) dX11_ahead_42 rfl k_11_119 h_88 rfl (Nat.le_of_ble_eq_true rfl) rfl rfl ⟨rfl, rfl⟩ ⟨Nat.zero_le _, Nat.zero_le _⟩ (s_m_textLong u hu hI.1) ?_
    intro r σ' hr; rw [hr.1, hr.2, htn]; clear hr
    refine e_icmpI (pc' := 48) (t := 59) dX11_ahead_45 (by decide) rfl ⟨by omega, by omega⟩ ⟨by omega, by omega⟩ (fun (c4_2 : n ≤ (p : Int)) => ?_) (fun (c4_2 : ¬ (n ≤ (p : Int))) => ?_)
    · refine e_iconst (pc' := 60) dX11_ahead_59 rfl ?_
      exact e_iret dX11_ahead_60 rfl ⟨rfl, Nat.le_refl _⟩ ⟨_, rfl, p, by omega, by omega, (fun k a b => by omega), by first | exact Or.inl ⟨by omega, rfl⟩ | exact Or.inr ⟨by omega, by omega, rfl⟩, hI, PF.rf⟩
    · refine e_aload_n (pc' := 49) dX11_ahead_48 rfl rfl ?_
      refine e_aload_n (pc' := 50) dX11_ahead_49 rfl rfl ?_
      refine e_getI (pc' := 53) (v := p) dX11_ahead_50 rfl f_11_116 h_88 rfl hI.2.1 ?_
      refine e_cv1i (pc' := 56) dX11_ahead_53 rfl k_11_122 h_88 rfl (Nat.le_of_ble_eq_true rfl) rfl rfl ⟨rfl, rfl⟩ ⟨Nat.zero_le _, Nat.zero_le _⟩ (s_m_charAt u hu hI.1 p ⟨by omega, by omega⟩) ?_
      intro r σ' hr; rw [hr.1, hr.2, (htx p (by omega) (by omega)).1]; clear hr
      have hch := (htx p (by omega) (by omega)).2
      have hch1 := hch.1
      have hch2 := hch.2
      refine e_goto (pc' := 60) dX11_ahead_56 (by decide) ?_
      exact e_iret dX11_ahead_60 rfl ⟨rfl, Nat.le_refl _⟩ ⟨_, rfl, p, by omega, by omega, (fun k a b => by omega), by first | exact Or.inl ⟨by omega, rfl⟩ | exact Or.inr ⟨by omega, by omega, rfl⟩, hI, PF.rf⟩
  · refine e_aload_n (pc' := 12) dX11_ahead_11 rfl rfl ?_
    refine e_aload_n (pc' := 13) dX11_ahead_12 rfl rfl ?_
    refine e_getI (pc' := 16) (v := p) dX11_ahead_13 rfl f_11_116 h_88 rfl hI.2.1 ?_
    refine e_cv1i (pc' := 19) dX11_ahead_16 rfl k_11_122 h_88 rfl (Nat.le_of_ble_eq_true rfl) rfl rfl ⟨rfl, rfl⟩ ⟨Nat.zero_le _, Nat.zero_le _⟩ (s_m_charAt u hu hI.1 p ⟨by omega, by omega⟩) ?_
    intro r σ' hr; rw [hr.1, hr.2, (htx p (by omega) (by omega)).1]; clear hr
    have hch := (htx p (by omega) (by omega)).2
    have hch1 := hch.1
    have hch2 := hch.2
    refine e_bipush (pc' := 21) (z := 32) dX11_ahead_19 rfl (by decide) ?_
    refine e_icmpI (pc' := 24) (t := 37) dX11_ahead_21 (by decide) rfl ⟨by omega, by omega⟩ ⟨by omega, by omega⟩ (fun (c4_2 : ((T p) : Int) ≠ 32) => ?_) (fun (c4_2 : ¬ (((T p) : Int) ≠ 32)) => ?_)
    · refine e_aload_n (pc' := 38) dX11_ahead_37 rfl rfl ?_
      refine e_getI (pc' := 41) (v := p) dX11_ahead_38 rfl f_11_116 h_88 rfl hI.2.1 ?_
      refine e_aload_n (pc' := 42) dX11_ahead_41 rfl rfl ?_
      refine e_cv0i (pc' := 45) dX11_ahead_42 rfl k_11_119 h_88 rfl (Nat.le_of_ble_eq_true rfl) rfl rfl ⟨rfl, rfl⟩ ⟨Nat.zero_le _, Nat.zero_le _⟩ (s_m_textLong u hu hI.1) ?_
      intro r σ' hr; rw [hr.1, hr.2, htn]; clear hr
      refine e_icmpI (pc' := 48) (t := 59) dX11_ahead_45 (by decide) rfl ⟨by omega, by omega⟩ ⟨by omega, by omega⟩ (fun (c6_3 : n ≤ (p : Int)) => ?_) (fun (c6_3 : ¬ (n ≤ (p : Int))) => ?_)
      · refine e_iconst (pc' := 60) dX11_ahead_59 rfl ?_
        exact e_iret dX11_ahead_60 rfl ⟨rfl, Nat.le_refl _⟩ ⟨_, rfl, p, by omega, by omega, (fun k a b => by omega), by first | exact Or.inl ⟨by omega, rfl⟩ | exact Or.inr ⟨by omega, by omega, rfl⟩, hI, PF.rf⟩
      · refine e_aload_n (pc' := 49) dX11_ahead_48 rfl rfl ?_
        refine e_aload_n (pc' := 50) dX11_ahead_49 rfl rfl ?_
        refine e_getI (pc' := 53) (v := p) dX11_ahead_50 rfl f_11_116 h_88 rfl hI.2.1 ?_
        refine e_cv1i (pc' := 56) dX11_ahead_53 rfl k_11_122 h_88 rfl (Nat.le_of_ble_eq_true rfl) rfl rfl ⟨rfl, rfl⟩ ⟨Nat.zero_le _, Nat.zero_le _⟩ (s_m_charAt u hu hI.1 p ⟨by omega, by omega⟩) ?_
        intro r σ' hr; rw [hr.1, hr.2, (htx p (by omega) (by omega)).1]; clear hr
        have hch := (htx p (by omega) (by omega)).2
        have hch1 := hch.1
        have hch2 := hch.2
        refine e_goto (pc' := 60) dX11_ahead_56 (by decide) ?_
        exact e_iret dX11_ahead_60 rfl ⟨rfl, Nat.le_refl _⟩ ⟨_, rfl, p, by omega, by omega, (fun k a b => by omega), by first | exact Or.inl ⟨by omega, rfl⟩ | exact Or.inr ⟨by omega, by omega, rfl⟩, hI, PF.rf⟩
    · refine e_aload_n (pc' := 25) dX11_ahead_24 rfl rfl ?_
      refine e_dup (pc' := 26) dX11_ahead_25 rfl rfl ?_
      refine e_getI (pc' := 29) (v := p) dX11_ahead_26 rfl f_11_116 h_88 rfl hI.2.1 ?_
      refine e_iconst (pc' := 30) dX11_ahead_29 rfl ?_
      refine e_iadd (pc' := 31) dX11_ahead_30 rfl ?_
      refine e_putI (pc' := 34) dX11_ahead_31 rfl f_11_116 h_88 rfl rfl rfl ?_
      refine e_goto (pc' := 0) dX11_ahead_34 (by decide) ?_
      refine (ih (p + 1) (upI σ 88 4 (p + 1)) (by omega) (by omega) (by omega) ⟨hI.1, rfl, hI.2.2.1, hI.2.2.2.1, hI.2.2.2.2.1, hI.2.2.2.2.2.1, hI.2.2.2.2.2.2⟩ htn htx).imp ?_
      rintro v σ' ⟨z, hz, q, h1, h2, h3, h4, h5, h6⟩
      have h3' : ∀ k, p ≤ k → k < q → T k = 32 := by
        intro k a b
        by_cases hkp : k = p
        · rw [hkp]; omega
        · exact h3 k (by omega) b
      exact ⟨z, hz, q, by omega, h2, h3', h4, h5, (show PF σ (upI σ 88 4 (p + 1)) from ⟨(by repeat (first | exact Fr.rf | assumption | (refine fr_I ?_ (by decide)) | (refine fr_J ?_ (by decide)) | (refine fr_C ?_ (by decide)))), ⟨rfl, rfl, rfl, rfl⟩⟩).tr h6⟩

theorem i64_asc (a b : Int64) : 10 * a + b - 48 = Int64.ofInt 10 * a + (b - Int64.ofInt 48) := by
  rw [show Int64.ofInt 10 = 10 by decide, show Int64.ofInt 48 = 48 by decide, Int64.sub_eq_add_neg, Int64.sub_eq_add_neg, Int64.add_assoc]

set_option maxHeartbeats 4000000 in
set_option maxRecDepth 100000 in
theorem l_m_digits {X : AX} {d : Nat} {σ0 : SG} (u n : Int) (T : Int → Int) (hu : 0 ≤ u ∧ u ≤ 2) (hn : 0 ≤ n ∧ n ≤ 40) (vs : List Int64) (ss : List Int) (fl p : Int) (hp : 0 ≤ p ∧ p < n) (hpd : isD (T p)) : ∀ (k m : Nat) (q : Int) (v : Int64) (σ : SG), q = p + m → m ≤ 6 → 7 - m < k → q ≤ n → (∀ j : Nat, j < m → isD (T (p + j))) → v = Int64.ofInt (dvS T p m) → PsI σ u vs ss q fl → σ.1 89 (57 + 41 * u) = n → (∀ k, 0 ≤ k → k < n → σ.1 89 (57 + 41 * u + 1 + k) = T k ∧ chr7 (T k)) → PF σ0 σ → Ev X 0 0 (d + 1) mX11_digits 7 [some (rv 88), some (iv p), some (jv v), none] [] σ (QJ (fun r σ' => ∃ (m : Nat) (fl' : Int), 1 ≤ m ∧ m ≤ 6 ∧ (∀ j : Nat, j < m → isD (T (p + j))) ∧ p + m ≤ n ∧ PsI σ' u vs ss (p + m) fl' ∧ ((fl' = fl ∧ r = Int64.ofInt (dvS T p m) ∧ (p + m = n ∨ ¬ isD (T (p + m)))) ∨ (fl' = 10 * p + 2 ∧ m = 6 ∧ p + 6 < n ∧ isD (T (p + 6)))) ∧ PF σ0 σ')) := by
  intro k
  induction k with
  | zero => intros; omega
  | succ k ih =>
  intro m q v σ hq hm6 hmk hqn hds hv hI htn htx hF
  have hm1 : 1 ≤ m ∨ (m = 0 ∧ q = p ∧ q < n ∧ isD (T q)) := by
    by_cases h0 : m = 0
    · right; subst h0; have e : q = p := by omega
      exact ⟨rfl, e, by omega, by rw [e]; exact hpd⟩
    · left; omega
  refine e_aload_n (pc' := 8) dX11_digits_7 rfl rfl ?_
  refine e_getI (pc' := 11) (v := q) dX11_digits_8 rfl f_11_116 h_88 rfl hI.2.1 ?_
  refine e_aload_n (pc' := 12) dX11_digits_11 rfl rfl ?_
  refine e_cv0i (pc' := 15) dX11_digits_12 rfl k_11_119 h_88 rfl (Nat.le_of_ble_eq_true rfl) rfl rfl ⟨rfl, rfl⟩ ⟨Nat.zero_le _, Nat.zero_le _⟩ (s_m_textLong u hu hI.1) ?_
  intro r σ' hr; rw [hr.1, hr.2, htn]; clear hr
  refine e_icmpI (pc' := 18) (t := 95) dX11_digits_15 (by decide) rfl ⟨by first | omega | (split <;> omega), by first | omega | (split <;> omega)⟩ ⟨by first | omega | (split <;> omega), by first | omega | (split <;> omega)⟩ (fun (c2_1 : n ≤ (q : Int)) => ?_) (fun (c2_1 : ¬ (n ≤ (q : Int))) => ?_)
  · refine e_lload_n (pc' := 96) dX11_digits_95 rfl rfl ?_
    exact e_lret dX11_digits_96 rfl ⟨rfl, Nat.le_refl _⟩ ⟨_, rfl, m, fl, (by rcases hm1 with h | h <;> first | exact h | omega | exact absurd h.2.2.2 hnD), hm6, hds, by omega, by rw [show p + (m : Int) = q by omega]; exact hI, Or.inl ⟨rfl, hv, by first | exact Or.inl (by omega) | (right; rw [show p + (m : Int) = q by omega]; exact hnD)⟩, hF⟩
  · refine e_aload_n (pc' := 19) dX11_digits_18 rfl rfl ?_
    refine e_aload_n (pc' := 20) dX11_digits_19 rfl rfl ?_
    refine e_getI (pc' := 23) (v := q) dX11_digits_20 rfl f_11_116 h_88 rfl hI.2.1 ?_
    refine e_cv1i (pc' := 26) dX11_digits_23 rfl k_11_122 h_88 rfl (Nat.le_of_ble_eq_true rfl) rfl rfl ⟨rfl, rfl⟩ ⟨Nat.zero_le _, Nat.zero_le _⟩ (s_m_charAt u hu hI.1 q ⟨by omega, by omega⟩) ?_
    intro r σ' hr; rw [hr.1, hr.2, (htx q (by omega) (by omega)).1]; clear hr
    have hch := (htx q (by omega) (by omega)).2
    have hch1 := hch.1
    have hch2 := hch.2
    refine e_i2l (pc' := 27) dX11_digits_26 rfl ⟨by first | omega | (split <;> omega), by first | omega | (split <;> omega)⟩ ?_
    refine e_ldc2 (pc' := 30) dX11_digits_27 rfl c_11_138 ?_
    refine e_ldc2 (pc' := 33) dX11_digits_30 rfl c_11_140 ?_
    refine e_cs3i (pc' := 36) dX11_digits_33 rfl pn_11_80 k_11_80 (Nat.le_of_ble_eq_true rfl) rfl rfl ⟨rfl, rfl⟩ ⟨Nat.zero_le _, Nat.zero_le _⟩ (s_m_in (T q) 48 57 (i64_to ⟨by omega, by omega⟩) (by decide) (by decide)) ?_
    intro r σ' hr; rw [hr.1, hr.2]; clear hr
    refine e_ifI (pc' := 39) (t := 95) dX11_digits_36 (by decide) rfl ⟨by first | omega | (split <;> omega), by first | omega | (split <;> omega)⟩ (fun (c4_2 : ((if 48 ≤ (T q) ∧ (T q) ≤ 57 then 1 else 0) : Int) = 0) => ?_) (fun (c4_2 : ¬ (((if 48 ≤ (T q) ∧ (T q) ≤ 57 then 1 else 0) : Int) = 0)) => ?_)
    · have c4_2n : ¬ (48 ≤ (T q) ∧ (T q) ≤ 57) := fun hpq_ => absurd (if_pos hpq_ : (if 48 ≤ (T q) ∧ (T q) ≤ 57 then (1 : Int) else 0) = 1) (by have := c4_2; omega)
      have hnD : ¬ isD (T q) := c4_2n
      refine e_lload_n (pc' := 96) dX11_digits_95 rfl rfl ?_
      exact e_lret dX11_digits_96 rfl ⟨rfl, Nat.le_refl _⟩ ⟨_, rfl, m, fl, (by rcases hm1 with h | h <;> first | exact h | omega | exact absurd h.2.2.2 hnD), hm6, hds, by omega, by rw [show p + (m : Int) = q by omega]; exact hI, Or.inl ⟨rfl, hv, by first | exact Or.inl (by omega) | (right; rw [show p + (m : Int) = q by omega]; exact hnD)⟩, hF⟩
    · have c4_2n : 48 ≤ (T q) ∧ (T q) ≤ 57 := Classical.byContradiction (fun hpq_ => absurd (if_neg hpq_ : (if 48 ≤ (T q) ∧ (T q) ≤ 57 then (1 : Int) else 0) = 0) (by have := c4_2; omega))
      have hisD : isD (T q) := c4_2n
      refine e_aload_n (pc' := 40) dX11_digits_39 rfl rfl ?_
      refine e_getI (pc' := 43) (v := q) dX11_digits_40 rfl f_11_116 h_88 rfl hI.2.1 ?_
      refine e_iload_n (pc' := 44) dX11_digits_43 rfl rfl ?_
      refine e_isub (pc' := 45) dX11_digits_44 rfl ?_
      refine e_bipush (pc' := 47) (z := 6) dX11_digits_45 rfl (by decide) ?_
      refine e_icmpI (pc' := 50) (t := 62) dX11_digits_47 (by decide) rfl ⟨by first | omega | (split <;> omega), by first | omega | (split <;> omega)⟩ ⟨by omega, by omega⟩ (fun (c6_3 : ((q - p) : Int) ≠ 6) => ?_) (fun (c6_3 : ¬ (((q - p) : Int) ≠ 6)) => ?_)
      · refine e_ldc2 (pc' := 65) dX11_digits_62 rfl c_11_145 ?_
        refine e_lload_n (pc' := 66) dX11_digits_65 rfl rfl ?_
        refine e_lmul (pc' := 67) dX11_digits_66 rfl ?_
        refine e_aload_n (pc' := 68) dX11_digits_67 rfl rfl ?_
        refine e_aload_n (pc' := 69) dX11_digits_68 rfl rfl ?_
        refine e_getI (pc' := 72) (v := q) dX11_digits_69 rfl f_11_116 h_88 rfl hI.2.1 ?_
        refine e_cv1i (pc' := 75) dX11_digits_72 rfl k_11_122 h_88 rfl (Nat.le_of_ble_eq_true rfl) rfl rfl ⟨rfl, rfl⟩ ⟨Nat.zero_le _, Nat.zero_le _⟩ (s_m_charAt u hu hI.1 q ⟨by omega, by omega⟩) ?_
        intro r σ' hr; rw [hr.1, hr.2, (htx q (by omega) (by omega)).1]; clear hr
        have hch := (htx q (by omega) (by omega)).2
        have hch1 := hch.1
        have hch2 := hch.2
        refine e_i2l (pc' := 76) dX11_digits_75 rfl ⟨by first | omega | (split <;> omega), by first | omega | (split <;> omega)⟩ ?_
        refine e_ladd (pc' := 77) dX11_digits_76 rfl ?_
        refine e_ldc2 (pc' := 80) dX11_digits_77 rfl c_11_138 ?_
        refine e_lsub (pc' := 81) dX11_digits_80 rfl ?_
        refine e_lstore_n (pc' := 82) (L' := [some (rv 88), some (iv p), some (jv (((10 * v) + (Int64.ofInt (T q))) - 48)), none]) dX11_digits_81 rfl (by decide) rfl ?_
        refine e_aload_n (pc' := 83) dX11_digits_82 rfl rfl ?_
        refine e_dup (pc' := 84) dX11_digits_83 rfl rfl ?_
        refine e_getI (pc' := 87) (v := q) dX11_digits_84 rfl f_11_116 h_88 rfl hI.2.1 ?_
        refine e_iconst (pc' := 88) dX11_digits_87 rfl ?_
        refine e_iadd (pc' := 89) dX11_digits_88 rfl ?_
        refine e_putI (pc' := 92) dX11_digits_89 rfl f_11_116 h_88 rfl rfl rfl ?_
        refine e_goto (pc' := 7) dX11_digits_92 (by decide) ?_
        have hds' : ∀ j : Nat, j < m + 1 → isD (T (p + j)) := by
          intro j a
          by_cases hjm : j < m
          · exact hds j hjm
          · rw [show p + (j : Int) = q by omega]; exact hisD
        refine ih (m + 1) (q + 1) _ (upI σ 88 4 (q + 1)) (by omega) (by omega) (by omega) (by omega) hds' ?_ ⟨hI.1, rfl, hI.2.2.1, hI.2.2.2.1, hI.2.2.2.2.1, hI.2.2.2.2.2.1, hI.2.2.2.2.2.2⟩ htn htx (hF.tr ⟨(by repeat (first | exact Fr.rf | assumption | (refine fr_I ?_ (by decide)) | (refine fr_J ?_ (by decide)) | (refine fr_C ?_ (by decide)))), ⟨rfl, rfl, rfl, rfl⟩⟩)
        show _ = Int64.ofInt (10 * dvS T p m + (T (p + m) - 48))
        rw [hv, show p + (m : Int) = q by omega, Int64.ofInt_add, Int64.ofInt_mul, Int64.ofInt_sub]
        exact i64_asc _ _
      · refine e_aload_n (pc' := 51) dX11_digits_50 rfl rfl ?_
        refine e_bipush (pc' := 53) (z := 10) dX11_digits_51 rfl (by decide) ?_
        refine e_iload_n (pc' := 54) dX11_digits_53 rfl rfl ?_
        refine e_imul (pc' := 55) dX11_digits_54 rfl ?_
        refine e_iconst (pc' := 56) dX11_digits_55 rfl ?_
        refine e_iadd (pc' := 57) dX11_digits_56 rfl ?_
        refine e_putI (pc' := 60) dX11_digits_57 rfl f_11_142 h_88 rfl rfl rfl ?_
        refine e_lconst (pc' := 61) (z := 0) dX11_digits_60 rfl rfl ?_
        exact e_lret dX11_digits_61 rfl ⟨rfl, Nat.le_refl _⟩ ⟨_, rfl, 6, 10 * p + 2, by omega, by omega, (fun j a => hds j (by omega)), by omega, ⟨hI.1, by rw [show p + ((6 : Nat) : Int) = q by omega]; exact hI.2.1, rfl, hI.2.2.2.1, hI.2.2.2.2.1, hI.2.2.2.2.2.1, hI.2.2.2.2.2.2⟩, Or.inr ⟨rfl, rfl, by omega, by rw [show p + 6 = q by omega]; exact hisD⟩, hF.tr ⟨(by repeat (first | exact Fr.rf | assumption | (refine fr_I ?_ (by decide)) | (refine fr_J ?_ (by decide)) | (refine fr_C ?_ (by decide)))), ⟨rfl, rfl, rfl, rfl⟩⟩⟩

set_option maxHeartbeats 4000000 in
set_option maxRecDepth 100000 in
theorem s_m_digits {X : AX} {d : Nat} {σ0 : SG} (u n : Int) (T : Int → Int) (hu : 0 ≤ u ∧ u ≤ 2) (hn : 0 ≤ n ∧ n ≤ 40) (vs : List Int64) (ss : List Int) (fl p : Int) (hp : 0 ≤ p ∧ p < n) (hpd : isD (T p)) (hI : PsI σ0 u vs ss p fl) (htn : σ0.1 89 (57 + 41 * u) = n) (htx : ∀ k, 0 ≤ k → k < n → σ0.1 89 (57 + 41 * u + 1 + k) = T k ∧ chr7 (T k)) : Ev X 0 0 (d + 1) mX11_digits 0 [some (rv 88), none, none, none] [] σ0 (QJ (fun r σ' => ∃ (m : Nat) (fl' : Int), 1 ≤ m ∧ m ≤ 6 ∧ (∀ j : Nat, j < m → isD (T (p + j))) ∧ p + m ≤ n ∧ PsI σ' u vs ss (p + m) fl' ∧ ((fl' = fl ∧ r = Int64.ofInt (dvS T p m) ∧ (p + m = n ∨ ¬ isD (T (p + m)))) ∨ (fl' = 10 * p + 2 ∧ m = 6 ∧ p + 6 < n ∧ isD (T (p + 6)))) ∧ PF σ0 σ')) := by
  refine e_aload_n (pc' := 1) dX11_digits_0 rfl rfl ?_
  refine e_getI (pc' := 4) (v := p) dX11_digits_1 rfl f_11_116 h_88 rfl hI.2.1 ?_
  refine e_istore_n (pc' := 5) (L' := [some (rv 88), some (iv p), none, none]) dX11_digits_4 rfl (by decide) rfl ?_
  refine e_lconst (pc' := 6) (z := 0) dX11_digits_5 rfl rfl ?_
  refine e_lstore_n (pc' := 7) (L' := [some (rv 88), some (iv p), some (jv 0), none]) dX11_digits_6 rfl (by decide) rfl ?_
  exact l_m_digits u n T hu hn vs ss fl p hp hpd 8 0 p 0 σ0 (by omega) (by omega) (by omega) (by omega) (fun j a => by omega) rfl hI htn htx PF.rf
