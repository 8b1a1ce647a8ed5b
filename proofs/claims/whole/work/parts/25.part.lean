def dtsI (o : Jvm.ClassFile.Cond) (x y : Int) : Decidable (tsI o x y) := match o with
  | .eq => inferInstanceAs (Decidable (x = y))
  | .ne => inferInstanceAs (Decidable (x ≠ y))
  | .lt => inferInstanceAs (Decidable (x < y))
  | .ge => inferInstanceAs (Decidable (y ≤ x))
  | .gt => inferInstanceAs (Decidable (y < x))
  | .le => inferInstanceAs (Decidable (x ≤ y))
section TERN
variable {X : AX} {c s d : Nat} {mr : MRec} {pc pc' : Nat} {L : AL} {S : List AV} {σ : SG} {Q : Option AV → SG → Prop}
theorem e_ternC {o : Jvm.ClassFile.Cond} {off x y a b o2 : Int} {t J : Nat} (hd : decode mr.2.1 pc = .ok (.if_icmp o off, 3)) (hp : (pc : Int) + off = (t : Int)) (hp2 : pc + 3 = pc') (hx : rg x) (hy : rg y) (hd1 : decode mr.2.1 pc' = .ok (.iconst a, 1)) (hd2 : decode mr.2.1 (pc' + 1) = .ok (.goto o2, 3)) (hj : ((pc' + 1 : Nat) : Int) + o2 = (J : Int)) (hd3 : decode mr.2.1 t = .ok (.iconst b, 1)) (hj2 : t + 1 = J) (K : Ev X c s d mr J L (iv (@ite _ (tsI o x y) (dtsI o x y) b a) :: S) σ Q) : Ev X c s d mr pc L (iv y :: iv x :: S) σ Q := by
  refine e_icmpI hd hp hp2 hx hy (fun h => ?_) (fun h => ?_)
  · rw [if_pos h] at K
    exact e_iconst hd3 hj2 K
  · rw [if_neg h] at K
    exact e_iconst hd1 rfl (e_goto hd2 hj K)
theorem e_ternI {o : Jvm.ClassFile.Cond} {off x a b o2 : Int} {t J : Nat} (hd : decode mr.2.1 pc = .ok (.ifCond o off, 3)) (hp : (pc : Int) + off = (t : Int)) (hp2 : pc + 3 = pc') (hx : rg x) (hd1 : decode mr.2.1 pc' = .ok (.iconst a, 1)) (hd2 : decode mr.2.1 (pc' + 1) = .ok (.goto o2, 3)) (hj : ((pc' + 1 : Nat) : Int) + o2 = (J : Int)) (hd3 : decode mr.2.1 t = .ok (.iconst b, 1)) (hj2 : t + 1 = J) (K : Ev X c s d mr J L (iv (@ite _ (tsI o x 0) (dtsI o x 0) b a) :: S) σ Q) : Ev X c s d mr pc L (iv x :: S) σ Q := by
  refine e_ifI hd hp hp2 hx (fun h => ?_) (fun h => ?_)
  · rw [if_pos h] at K
    exact e_iconst hd3 hj2 K
  · rw [if_neg h] at K
    exact e_iconst hd1 rfl (e_goto hd2 hj K)
end TERN
theorem mulb {a p : Int} (h1 : 0 ≤ a) (h2 : a ≤ 99) (h3 : 0 ≤ p) (h4 : p ≤ 200) : 0 ≤ a * p ∧ a * p ≤ 19800 := by
  refine ⟨Int.mul_nonneg h1 h3, ?_⟩
  have := Int.mul_le_mul h2 h4 h3 (by omega : (0 : Int) ≤ 99)
  omega
def shS (p all u : Int) : Int := if 0 < all then u * p / all else 0
def opn (u : Int → Int) (b : Int) : Int := ((0 + (if u 0 ≤ b then 0 else 1)) + (if u 1 ≤ b then 0 else 1)) + (if u 2 ≤ b then 0 else 1)
def spr (p : Int) (u : Int → Int) (b : Int) : Int := ((p - min (u 0) b) - min (u 1) b) - min (u 2) b
def bst (p : Int) (u : Int → Int) (b : Int) : Int := b + (if 0 < opn u b then spr p u b / opn u b else 0)
def bN (p : Int) (u : Int → Int) : Nat → Int
  | 0 => 0
  | n + 1 => bst p u (bN p u n)
theorem spr_ok {p : Int} {u : Int → Int} {b : Int} (h : 0 ≤ spr p u b) (hp : p ≤ 200) (hb : 0 ≤ b) (h0 : 0 ≤ u 0) (h1 : 0 ≤ u 1) (h2 : 0 ≤ u 2) : 0 ≤ spr p u (bst p u b) ∧ 0 ≤ bst p u b ∧ bst p u b ≤ b + 200 := by
  unfold bst
  have hs : spr p u b ≤ 200 := by unfold spr; omega
  unfold spr opn at *
  by_cases c0 : u 0 ≤ b <;> by_cases c1 : u 1 ≤ b <;> by_cases c2 : u 2 ≤ b <;> simp only [c0, c1, c2, if_true, if_false] at h hs ⊢ <;> simp <;> omega
theorem bN_ok {p : Int} {u : Int → Int} (hp : 0 ≤ p) (hp2 : p ≤ 200) (h0 : 0 ≤ u 0) (h1 : 0 ≤ u 1) (h2 : 0 ≤ u 2) : ∀ n, 0 ≤ spr p u (bN p u n) ∧ 0 ≤ bN p u n ∧ bN p u n ≤ 200 * n
  | 0 => by
    refine ⟨?_, Int.le_refl _, Int.le_refl _⟩
    show 0 ≤ spr p u 0
    unfold spr
    omega
  | n + 1 => by
    obtain ⟨a, b, c⟩ := bN_ok hp hp2 h0 h1 h2 n
    obtain ⟨x, y, z⟩ := spr_ok a hp2 b h0 h1 h2
    exact ⟨x, y, by show bst p u (bN p u n) ≤ _; omega⟩
/-- what is added, by would, the purse and how it is parted -/
def adS (md p : Int) (u : Int → Int) (i : Int) : Int := if u 0 + u 1 + u 2 ≤ p then u i else if md = 0 then shS p (u 0 + u 1 + u 2) (u i) else if md = 1 then (if i = 0 then min (u 0) p else if i = 1 then min (u 1) (p - min (u 0) p) else min (u 2) (p - min (u 0) p - min (u 1) (p - min (u 0) p))) else min (u i) (bN p u 3)

set_option maxHeartbeats 4000000 in
set_option maxRecDepth 100000 in
theorem s_share {X : AX} {d : Nat} {σ : SG} (p all : Int) (hu0 : 0 ≤ σ.1 41 0 ∧ σ.1 41 0 ≤ 99) (hu1 : 0 ≤ σ.1 41 1 ∧ σ.1 41 1 ≤ 99) (hu2 : 0 ≤ σ.1 41 2 ∧ σ.1 41 2 ≤ 99) (hp : 0 ≤ p ∧ p ≤ 200) (ha : 0 ≤ all ∧ all ≤ 297) : Ev X 0 0 d mX3_partByShare 0 [some (rv 39), some (iv p), some (iv all), none] [] σ (QV (fun σ' => (σ'.1 42 0 = shS p all (σ.1 41 0) ∧ σ'.1 42 1 = shS p all (σ.1 41 1) ∧ σ'.1 42 2 = shS p all (σ.1 41 2)) ∧ Fr [42] σ σ')) := by
  have hm0 := mulb hu0.1 hu0.2 hp.1 hp.2
  have hm1 := mulb hu1.1 hu1.2 hp.1 hp.2
  have hm2 := mulb hu2.1 hu2.2 hp.1 hp.2
  refine e_iconst (pc' := 1) dX3_partByShare_0 rfl ?_
  refine e_istore_n (pc' := 2) (L' := [some (rv 39), some (iv p), some (iv all), some (iv 0)]) dX3_partByShare_1 rfl (by decide) rfl ?_
  refine e_iload_n (pc' := 3) dX3_partByShare_2 rfl rfl ?_
  refine e_iconst (pc' := 4) dX3_partByShare_3 rfl ?_
  refine e_icmpI (pc' := 7) (t := 37) dX3_partByShare_4 (by decide) rfl ⟨by omega, by omega⟩ ⟨by omega, by omega⟩ (fun c2_1 => absurd (show 3 ≤ (0 : Int) from c2_1) (by decide)) (fun _ => ?_)
  refine e_aload_n (pc' := 8) dX3_partByShare_7 rfl rfl ?_
  refine e_getR (pc' := 11) dX3_partByShare_8 rfl f_3_18 h_39 rfl ?_
  refine e_iload_n (pc' := 12) dX3_partByShare_11 rfl rfl ?_
  refine e_iload_n (pc' := 13) dX3_partByShare_12 rfl rfl ?_
  refine e_ifI (pc' := 16) (t := 29) dX3_partByShare_13 (by decide) rfl ⟨by omega, by omega⟩ (fun (c2_2 : (all : Int) ≤ 0) => ?_) (fun (c2_2 : ¬ ((all : Int) ≤ 0)) => ?_)
  · refine e_iconst (pc' := 30) dX3_partByShare_29 rfl ?_
    refine e_iast (pc' := 31) dX3_partByShare_30 rfl h_42 (by decide) (by omega) (by omega) ?_
    refine e_iinc (pc' := 34) (L' := [some (rv 39), some (iv p), some (iv all), some (iv 1)]) dX3_partByShare_31 rfl rfl (by decide) rfl ?_
    refine e_goto (pc' := 2) dX3_partByShare_34 (by decide) ?_
    refine e_iload_n (pc' := 3) dX3_partByShare_2 rfl rfl ?_
    refine e_iconst (pc' := 4) dX3_partByShare_3 rfl ?_
    refine e_icmpI (pc' := 7) (t := 37) dX3_partByShare_4 (by decide) rfl ⟨by omega, by omega⟩ ⟨by omega, by omega⟩ (fun c4_3 => absurd (show 3 ≤ (1 : Int) from c4_3) (by decide)) (fun _ => ?_)
    refine e_aload_n (pc' := 8) dX3_partByShare_7 rfl rfl ?_
    refine e_getR (pc' := 11) dX3_partByShare_8 rfl f_3_18 h_39 rfl ?_
    refine e_iload_n (pc' := 12) dX3_partByShare_11 rfl rfl ?_
    refine e_iload_n (pc' := 13) dX3_partByShare_12 rfl rfl ?_
    refine e_ifI (pc' := 16) (t := 29) dX3_partByShare_13 (by decide) rfl ⟨by omega, by omega⟩ (fun (c4_4 : (all : Int) ≤ 0) => ?_) (fun (c4_4 : ¬ ((all : Int) ≤ 0)) => ?_)
    · refine e_iconst (pc' := 30) dX3_partByShare_29 rfl ?_
      refine e_iast (pc' := 31) dX3_partByShare_30 rfl h_42 (by decide) (by omega) (by omega) ?_
      refine e_iinc (pc' := 34) (L' := [some (rv 39), some (iv p), some (iv all), some (iv 2)]) dX3_partByShare_31 rfl rfl (by decide) rfl ?_
      refine e_goto (pc' := 2) dX3_partByShare_34 (by decide) ?_
      refine e_iload_n (pc' := 3) dX3_partByShare_2 rfl rfl ?_
      refine e_iconst (pc' := 4) dX3_partByShare_3 rfl ?_
      refine e_icmpI (pc' := 7) (t := 37) dX3_partByShare_4 (by decide) rfl ⟨by omega, by omega⟩ ⟨by omega, by omega⟩ (fun c6_5 => absurd (show 3 ≤ (2 : Int) from c6_5) (by decide)) (fun _ => ?_)
      refine e_aload_n (pc' := 8) dX3_partByShare_7 rfl rfl ?_
      refine e_getR (pc' := 11) dX3_partByShare_8 rfl f_3_18 h_39 rfl ?_
      refine e_iload_n (pc' := 12) dX3_partByShare_11 rfl rfl ?_
      refine e_iload_n (pc' := 13) dX3_partByShare_12 rfl rfl ?_
      refine e_ifI (pc' := 16) (t := 29) dX3_partByShare_13 (by decide) rfl ⟨by omega, by omega⟩ (fun (c6_6 : (all : Int) ≤ 0) => ?_) (fun (c6_6 : ¬ ((all : Int) ≤ 0)) => ?_)
      · refine e_iconst (pc' := 30) dX3_partByShare_29 rfl ?_
        refine e_iast (pc' := 31) dX3_partByShare_30 rfl h_42 (by decide) (by omega) (by omega) ?_
        refine e_iinc (pc' := 34) (L' := [some (rv 39), some (iv p), some (iv all), some (iv 3)]) dX3_partByShare_31 rfl rfl (by decide) rfl ?_
        refine e_goto (pc' := 2) dX3_partByShare_34 (by decide) ?_
        refine e_iload_n (pc' := 3) dX3_partByShare_2 rfl rfl ?_
        refine e_iconst (pc' := 4) dX3_partByShare_3 rfl ?_
        refine e_icmpI (pc' := 7) (t := 37) dX3_partByShare_4 (by decide) rfl ⟨by omega, by omega⟩ ⟨by omega, by omega⟩ (fun _ => ?_) (fun c8_7 => absurd (show 3 ≤ (3 : Int) by decide) c8_7)
        exact e_vret dX3_partByShare_37 rfl ⟨rfl, Nat.le_refl _⟩ ⟨rfl, ⟨by unfold shS; first | (rw [if_pos (by omega)]; rfl) | (rw [if_neg (by omega)]; rfl), by unfold shS; first | (rw [if_pos (by omega)]; rfl) | (rw [if_neg (by omega)]; rfl), by unfold shS; first | (rw [if_pos (by omega)]; rfl) | (rw [if_neg (by omega)]; rfl)⟩, (by repeat (first | exact Fr.rf | (refine fr_I ?_ (by decide)) | (refine fr_J ?_ (by decide)) | (refine fr_C ?_ (by decide))))⟩
      · refine e_aload_n (pc' := 17) dX3_partByShare_16 rfl rfl ?_
        refine e_getR (pc' := 20) dX3_partByShare_17 rfl f_3_15 h_39 rfl ?_
        refine e_iload_n (pc' := 21) dX3_partByShare_20 rfl rfl ?_
        refine e_iald (pc' := 22) (v := (σ.1 41 2)) dX3_partByShare_21 rfl h_41 (by decide) (by omega) (by omega) rfl ?_
        refine e_iload_n (pc' := 23) dX3_partByShare_22 rfl rfl ?_
        refine e_imul (pc' := 24) dX3_partByShare_23 rfl ?_
        refine e_iload_n (pc' := 25) dX3_partByShare_24 rfl rfl ?_
        refine e_idiv (pc' := 26) dX3_partByShare_25 rfl (by omega) (by omega) (by omega) (by omega) ?_
        refine e_goto (pc' := 30) dX3_partByShare_26 (by decide) ?_
        refine e_iast (pc' := 31) dX3_partByShare_30 rfl h_42 (by decide) (by omega) (by omega) ?_
        refine e_iinc (pc' := 34) (L' := [some (rv 39), some (iv p), some (iv all), some (iv 3)]) dX3_partByShare_31 rfl rfl (by decide) rfl ?_
        refine e_goto (pc' := 2) dX3_partByShare_34 (by decide) ?_
        refine e_iload_n (pc' := 3) dX3_partByShare_2 rfl rfl ?_
        refine e_iconst (pc' := 4) dX3_partByShare_3 rfl ?_
        refine e_icmpI (pc' := 7) (t := 37) dX3_partByShare_4 (by decide) rfl ⟨by omega, by omega⟩ ⟨by omega, by omega⟩ (fun _ => ?_) (fun c8_7 => absurd (show 3 ≤ (3 : Int) by decide) c8_7)
        exact e_vret dX3_partByShare_37 rfl ⟨rfl, Nat.le_refl _⟩ ⟨rfl, ⟨by unfold shS; first | (rw [if_pos (by omega)]; rfl) | (rw [if_neg (by omega)]; rfl), by unfold shS; first | (rw [if_pos (by omega)]; rfl) | (rw [if_neg (by omega)]; rfl), by unfold shS; first | (rw [if_pos (by omega)]; rfl) | (rw [if_neg (by omega)]; rfl)⟩, (by repeat (first | exact Fr.rf | (refine fr_I ?_ (by decide)) | (refine fr_J ?_ (by decide)) | (refine fr_C ?_ (by decide))))⟩
    · refine e_aload_n (pc' := 17) dX3_partByShare_16 rfl rfl ?_
      refine e_getR (pc' := 20) dX3_partByShare_17 rfl f_3_15 h_39 rfl ?_
      refine e_iload_n (pc' := 21) dX3_partByShare_20 rfl rfl ?_
      refine e_iald (pc' := 22) (v := (σ.1 41 1)) dX3_partByShare_21 rfl h_41 (by decide) (by omega) (by omega) rfl ?_
      refine e_iload_n (pc' := 23) dX3_partByShare_22 rfl rfl ?_
      refine e_imul (pc' := 24) dX3_partByShare_23 rfl ?_
      refine e_iload_n (pc' := 25) dX3_partByShare_24 rfl rfl ?_
      refine e_idiv (pc' := 26) dX3_partByShare_25 rfl (by omega) (by omega) (by omega) (by omega) ?_
      refine e_goto (pc' := 30) dX3_partByShare_26 (by decide) ?_
      refine e_iast (pc' := 31) dX3_partByShare_30 rfl h_42 (by decide) (by omega) (by omega) ?_
      refine e_iinc (pc' := 34) (L' := [some (rv 39), some (iv p), some (iv all), some (iv 2)]) dX3_partByShare_31 rfl rfl (by decide) rfl ?_
      refine e_goto (pc' := 2) dX3_partByShare_34 (by decide) ?_
      refine e_iload_n (pc' := 3) dX3_partByShare_2 rfl rfl ?_
      refine e_iconst (pc' := 4) dX3_partByShare_3 rfl ?_
      refine e_icmpI (pc' := 7) (t := 37) dX3_partByShare_4 (by decide) rfl ⟨by omega, by omega⟩ ⟨by omega, by omega⟩ (fun c6_5 => absurd (show 3 ≤ (2 : Int) from c6_5) (by decide)) (fun _ => ?_)
      refine e_aload_n (pc' := 8) dX3_partByShare_7 rfl rfl ?_
      refine e_getR (pc' := 11) dX3_partByShare_8 rfl f_3_18 h_39 rfl ?_
      refine e_iload_n (pc' := 12) dX3_partByShare_11 rfl rfl ?_
      refine e_iload_n (pc' := 13) dX3_partByShare_12 rfl rfl ?_
      refine e_ifI (pc' := 16) (t := 29) dX3_partByShare_13 (by decide) rfl ⟨by omega, by omega⟩ (fun (c6_6 : (all : Int) ≤ 0) => ?_) (fun (c6_6 : ¬ ((all : Int) ≤ 0)) => ?_)
      · refine e_iconst (pc' := 30) dX3_partByShare_29 rfl ?_
        refine e_iast (pc' := 31) dX3_partByShare_30 rfl h_42 (by decide) (by omega) (by omega) ?_
        refine e_iinc (pc' := 34) (L' := [some (rv 39), some (iv p), some (iv all), some (iv 3)]) dX3_partByShare_31 rfl rfl (by decide) rfl ?_
        refine e_goto (pc' := 2) dX3_partByShare_34 (by decide) ?_
        refine e_iload_n (pc' := 3) dX3_partByShare_2 rfl rfl ?_
        refine e_iconst (pc' := 4) dX3_partByShare_3 rfl ?_
        refine e_icmpI (pc' := 7) (t := 37) dX3_partByShare_4 (by decide) rfl ⟨by omega, by omega⟩ ⟨by omega, by omega⟩ (fun _ => ?_) (fun c8_7 => absurd (show 3 ≤ (3 : Int) by decide) c8_7)
        exact e_vret dX3_partByShare_37 rfl ⟨rfl, Nat.le_refl _⟩ ⟨rfl, ⟨by unfold shS; first | (rw [if_pos (by omega)]; rfl) | (rw [if_neg (by omega)]; rfl), by unfold shS; first | (rw [if_pos (by omega)]; rfl) | (rw [if_neg (by omega)]; rfl), by unfold shS; first | (rw [if_pos (by omega)]; rfl) | (rw [if_neg (by omega)]; rfl)⟩, (by repeat (first | exact Fr.rf | (refine fr_I ?_ (by decide)) | (refine fr_J ?_ (by decide)) | (refine fr_C ?_ (by decide))))⟩
      · refine e_aload_n (pc' := 17) dX3_partByShare_16 rfl rfl ?_
        refine e_getR (pc' := 20) dX3_partByShare_17 rfl f_3_15 h_39 rfl ?_
        refine e_iload_n (pc' := 21) dX3_partByShare_20 rfl rfl ?_
        refine e_iald (pc' := 22) (v := (σ.1 41 2)) dX3_partByShare_21 rfl h_41 (by decide) (by omega) (by omega) rfl ?_
        refine e_iload_n (pc' := 23) dX3_partByShare_22 rfl rfl ?_
        refine e_imul (pc' := 24) dX3_partByShare_23 rfl ?_
        refine e_iload_n (pc' := 25) dX3_partByShare_24 rfl rfl ?_
        refine e_idiv (pc' := 26) dX3_partByShare_25 rfl (by omega) (by omega) (by omega) (by omega) ?_
        refine e_goto (pc' := 30) dX3_partByShare_26 (by decide) ?_
        refine e_iast (pc' := 31) dX3_partByShare_30 rfl h_42 (by decide) (by omega) (by omega) ?_
        refine e_iinc (pc' := 34) (L' := [some (rv 39), some (iv p), some (iv all), some (iv 3)]) dX3_partByShare_31 rfl rfl (by decide) rfl ?_
        refine e_goto (pc' := 2) dX3_partByShare_34 (by decide) ?_
        refine e_iload_n (pc' := 3) dX3_partByShare_2 rfl rfl ?_
        refine e_iconst (pc' := 4) dX3_partByShare_3 rfl ?_
        refine e_icmpI (pc' := 7) (t := 37) dX3_partByShare_4 (by decide) rfl ⟨by omega, by omega⟩ ⟨by omega, by omega⟩ (fun _ => ?_) (fun c8_7 => absurd (show 3 ≤ (3 : Int) by decide) c8_7)
        exact e_vret dX3_partByShare_37 rfl ⟨rfl, Nat.le_refl _⟩ ⟨rfl, ⟨by unfold shS; first | (rw [if_pos (by omega)]; rfl) | (rw [if_neg (by omega)]; rfl), by unfold shS; first | (rw [if_pos (by omega)]; rfl) | (rw [if_neg (by omega)]; rfl), by unfold shS; first | (rw [if_pos (by omega)]; rfl) | (rw [if_neg (by omega)]; rfl)⟩, (by repeat (first | exact Fr.rf | (refine fr_I ?_ (by decide)) | (refine fr_J ?_ (by decide)) | (refine fr_C ?_ (by decide))))⟩
  · refine e_aload_n (pc' := 17) dX3_partByShare_16 rfl rfl ?_
    refine e_getR (pc' := 20) dX3_partByShare_17 rfl f_3_15 h_39 rfl ?_
    refine e_iload_n (pc' := 21) dX3_partByShare_20 rfl rfl ?_
    refine e_iald (pc' := 22) (v := (σ.1 41 0)) dX3_partByShare_21 rfl h_41 (by decide) (by omega) (by omega) rfl ?_
    refine e_iload_n (pc' := 23) dX3_partByShare_22 rfl rfl ?_
    refine e_imul (pc' := 24) dX3_partByShare_23 rfl ?_
    refine e_iload_n (pc' := 25) dX3_partByShare_24 rfl rfl ?_
    refine e_idiv (pc' := 26) dX3_partByShare_25 rfl (by omega) (by omega) (by omega) (by omega) ?_
    refine e_goto (pc' := 30) dX3_partByShare_26 (by decide) ?_
    refine e_iast (pc' := 31) dX3_partByShare_30 rfl h_42 (by decide) (by omega) (by omega) ?_
    refine e_iinc (pc' := 34) (L' := [some (rv 39), some (iv p), some (iv all), some (iv 1)]) dX3_partByShare_31 rfl rfl (by decide) rfl ?_
    refine e_goto (pc' := 2) dX3_partByShare_34 (by decide) ?_
    refine e_iload_n (pc' := 3) dX3_partByShare_2 rfl rfl ?_
    refine e_iconst (pc' := 4) dX3_partByShare_3 rfl ?_
    refine e_icmpI (pc' := 7) (t := 37) dX3_partByShare_4 (by decide) rfl ⟨by omega, by omega⟩ ⟨by omega, by omega⟩ (fun c4_3 => absurd (show 3 ≤ (1 : Int) from c4_3) (by decide)) (fun _ => ?_)
    refine e_aload_n (pc' := 8) dX3_partByShare_7 rfl rfl ?_
    refine e_getR (pc' := 11) dX3_partByShare_8 rfl f_3_18 h_39 rfl ?_
    refine e_iload_n (pc' := 12) dX3_partByShare_11 rfl rfl ?_
    refine e_iload_n (pc' := 13) dX3_partByShare_12 rfl rfl ?_
    refine e_ifI (pc' := 16) (t := 29) dX3_partByShare_13 (by decide) rfl ⟨by omega, by omega⟩ (fun (c4_4 : (all : Int) ≤ 0) => ?_) (fun (c4_4 : ¬ ((all : Int) ≤ 0)) => ?_)
    · refine e_iconst (pc' := 30) dX3_partByShare_29 rfl ?_
      refine e_iast (pc' := 31) dX3_partByShare_30 rfl h_42 (by decide) (by omega) (by omega) ?_
      refine e_iinc (pc' := 34) (L' := [some (rv 39), some (iv p), some (iv all), some (iv 2)]) dX3_partByShare_31 rfl rfl (by decide) rfl ?_
      refine e_goto (pc' := 2) dX3_partByShare_34 (by decide) ?_
      refine e_iload_n (pc' := 3) dX3_partByShare_2 rfl rfl ?_
      refine e_iconst (pc' := 4) dX3_partByShare_3 rfl ?_
      refine e_icmpI (pc' := 7) (t := 37) dX3_partByShare_4 (by decide) rfl ⟨by omega, by omega⟩ ⟨by omega, by omega⟩ (fun c6_5 => absurd (show 3 ≤ (2 : Int) from c6_5) (by decide)) (fun _ => ?_)
      refine e_aload_n (pc' := 8) dX3_partByShare_7 rfl rfl ?_
      refine e_getR (pc' := 11) dX3_partByShare_8 rfl f_3_18 h_39 rfl ?_
      refine e_iload_n (pc' := 12) dX3_partByShare_11 rfl rfl ?_
      refine e_iload_n (pc' := 13) dX3_partByShare_12 rfl rfl ?_
      refine e_ifI (pc' := 16) (t := 29) dX3_partByShare_13 (by decide) rfl ⟨by omega, by omega⟩ (fun (c6_6 : (all : Int) ≤ 0) => ?_) (fun (c6_6 : ¬ ((all : Int) ≤ 0)) => ?_)
      · refine e_iconst (pc' := 30) dX3_partByShare_29 rfl ?_
        refine e_iast (pc' := 31) dX3_partByShare_30 rfl h_42 (by decide) (by omega) (by omega) ?_
        refine e_iinc (pc' := 34) (L' := [some (rv 39), some (iv p), some (iv all), some (iv 3)]) dX3_partByShare_31 rfl rfl (by decide) rfl ?_
        refine e_goto (pc' := 2) dX3_partByShare_34 (by decide) ?_
        refine e_iload_n (pc' := 3) dX3_partByShare_2 rfl rfl ?_
        refine e_iconst (pc' := 4) dX3_partByShare_3 rfl ?_
        refine e_icmpI (pc' := 7) (t := 37) dX3_partByShare_4 (by decide) rfl ⟨by omega, by omega⟩ ⟨by omega, by omega⟩ (fun _ => ?_) (fun c8_7 => absurd (show 3 ≤ (3 : Int) by decide) c8_7)
        exact e_vret dX3_partByShare_37 rfl ⟨rfl, Nat.le_refl _⟩ ⟨rfl, ⟨by unfold shS; first | (rw [if_pos (by omega)]; rfl) | (rw [if_neg (by omega)]; rfl), by unfold shS; first | (rw [if_pos (by omega)]; rfl) | (rw [if_neg (by omega)]; rfl), by unfold shS; first | (rw [if_pos (by omega)]; rfl) | (rw [if_neg (by omega)]; rfl)⟩, (by repeat (first | exact Fr.rf | (refine fr_I ?_ (by decide)) | (refine fr_J ?_ (by decide)) | (refine fr_C ?_ (by decide))))⟩
      · refine e_aload_n (pc' := 17) dX3_partByShare_16 rfl rfl ?_
        refine e_getR (pc' := 20) dX3_partByShare_17 rfl f_3_15 h_39 rfl ?_
        refine e_iload_n (pc' := 21) dX3_partByShare_20 rfl rfl ?_
        refine e_iald (pc' := 22) (v := (σ.1 41 2)) dX3_partByShare_21 rfl h_41 (by decide) (by omega) (by omega) rfl ?_
        refine e_iload_n (pc' := 23) dX3_partByShare_22 rfl rfl ?_
        refine e_imul (pc' := 24) dX3_partByShare_23 rfl ?_
        refine e_iload_n (pc' := 25) dX3_partByShare_24 rfl rfl ?_
        refine e_idiv (pc' := 26) dX3_partByShare_25 rfl (by omega) (by omega) (by omega) (by omega) ?_
        refine e_goto (pc' := 30) dX3_partByShare_26 (by decide) ?_
        refine e_iast (pc' := 31) dX3_partByShare_30 rfl h_42 (by decide) (by omega) (by omega) ?_
        refine e_iinc (pc' := 34) (L' := [some (rv 39), some (iv p), some (iv all), some (iv 3)]) dX3_partByShare_31 rfl rfl (by decide) rfl ?_
        refine e_goto (pc' := 2) dX3_partByShare_34 (by decide) ?_
        refine e_iload_n (pc' := 3) dX3_partByShare_2 rfl rfl ?_
        refine e_iconst (pc' := 4) dX3_partByShare_3 rfl ?_
        refine e_icmpI (pc' := 7) (t := 37) dX3_partByShare_4 (by decide) rfl ⟨by omega, by omega⟩ ⟨by omega, by omega⟩ (fun _ => ?_) (fun c8_7 => absurd (show 3 ≤ (3 : Int) by decide) c8_7)
        exact e_vret dX3_partByShare_37 rfl ⟨rfl, Nat.le_refl _⟩ ⟨rfl, ⟨by unfold shS; first | (rw [if_pos (by omega)]; rfl) | (rw [if_neg (by omega)]; rfl), by unfold shS; first | (rw [if_pos (by omega)]; rfl) | (rw [if_neg (by omega)]; rfl), by unfold shS; first | (rw [if_pos (by omega)]; rfl) | (rw [if_neg (by omega)]; rfl)⟩, (by repeat (first | exact Fr.rf | (refine fr_I ?_ (by decide)) | (refine fr_J ?_ (by decide)) | (refine fr_C ?_ (by decide))))⟩
    · refine e_aload_n (pc' := 17) dX3_partByShare_16 rfl rfl ?_
      refine e_getR (pc' := 20) dX3_partByShare_17 rfl f_3_15 h_39 rfl ?_
      refine e_iload_n (pc' := 21) dX3_partByShare_20 rfl rfl ?_
      refine e_iald (pc' := 22) (v := (σ.1 41 1)) dX3_partByShare_21 rfl h_41 (by decide) (by omega) (by omega) rfl ?_
      refine e_iload_n (pc' := 23) dX3_partByShare_22 rfl rfl ?_
      refine e_imul (pc' := 24) dX3_partByShare_23 rfl ?_
      refine e_iload_n (pc' := 25) dX3_partByShare_24 rfl rfl ?_
      refine e_idiv (pc' := 26) dX3_partByShare_25 rfl (by omega) (by omega) (by omega) (by omega) ?_
      refine e_goto (pc' := 30) dX3_partByShare_26 (by decide) ?_
      refine e_iast (pc' := 31) dX3_partByShare_30 rfl h_42 (by decide) (by omega) (by omega) ?_
      refine e_iinc (pc' := 34) (L' := [some (rv 39), some (iv p), some (iv all), some (iv 2)]) dX3_partByShare_31 rfl rfl (by decide) rfl ?_
      refine e_goto (pc' := 2) dX3_partByShare_34 (by decide) ?_
      refine e_iload_n (pc' := 3) dX3_partByShare_2 rfl rfl ?_
      refine e_iconst (pc' := 4) dX3_partByShare_3 rfl ?_
      refine e_icmpI (pc' := 7) (t := 37) dX3_partByShare_4 (by decide) rfl ⟨by omega, by omega⟩ ⟨by omega, by omega⟩ (fun c6_5 => absurd (show 3 ≤ (2 : Int) from c6_5) (by decide)) (fun _ => ?_)
      refine e_aload_n (pc' := 8) dX3_partByShare_7 rfl rfl ?_
      refine e_getR (pc' := 11) dX3_partByShare_8 rfl f_3_18 h_39 rfl ?_
      refine e_iload_n (pc' := 12) dX3_partByShare_11 rfl rfl ?_
      refine e_iload_n (pc' := 13) dX3_partByShare_12 rfl rfl ?_
      refine e_ifI (pc' := 16) (t := 29) dX3_partByShare_13 (by decide) rfl ⟨by omega, by omega⟩ (fun (c6_6 : (all : Int) ≤ 0) => ?_) (fun (c6_6 : ¬ ((all : Int) ≤ 0)) => ?_)
      · refine e_iconst (pc' := 30) dX3_partByShare_29 rfl ?_
        refine e_iast (pc' := 31) dX3_partByShare_30 rfl h_42 (by decide) (by omega) (by omega) ?_
        refine e_iinc (pc' := 34) (L' := [some (rv 39), some (iv p), some (iv all), some (iv 3)]) dX3_partByShare_31 rfl rfl (by decide) rfl ?_
        refine e_goto (pc' := 2) dX3_partByShare_34 (by decide) ?_
        refine e_iload_n (pc' := 3) dX3_partByShare_2 rfl rfl ?_
        refine e_iconst (pc' := 4) dX3_partByShare_3 rfl ?_
        refine e_icmpI (pc' := 7) (t := 37) dX3_partByShare_4 (by decide) rfl ⟨by omega, by omega⟩ ⟨by omega, by omega⟩ (fun _ => ?_) (fun c8_7 => absurd (show 3 ≤ (3 : Int) by decide) c8_7)
        exact e_vret dX3_partByShare_37 rfl ⟨rfl, Nat.le_refl _⟩ ⟨rfl, ⟨by unfold shS; first | (rw [if_pos (by omega)]; rfl) | (rw [if_neg (by omega)]; rfl), by unfold shS; first | (rw [if_pos (by omega)]; rfl) | (rw [if_neg (by omega)]; rfl), by unfold shS; first | (rw [if_pos (by omega)]; rfl) | (rw [if_neg (by omega)]; rfl)⟩, (by repeat (first | exact Fr.rf | (refine fr_I ?_ (by decide)) | (refine fr_J ?_ (by decide)) | (refine fr_C ?_ (by decide))))⟩
      · refine e_aload_n (pc' := 17) dX3_partByShare_16 rfl rfl ?_
        refine e_getR (pc' := 20) dX3_partByShare_17 rfl f_3_15 h_39 rfl ?_
        refine e_iload_n (pc' := 21) dX3_partByShare_20 rfl rfl ?_
        refine e_iald (pc' := 22) (v := (σ.1 41 2)) dX3_partByShare_21 rfl h_41 (by decide) (by omega) (by omega) rfl ?_
        refine e_iload_n (pc' := 23) dX3_partByShare_22 rfl rfl ?_
        refine e_imul (pc' := 24) dX3_partByShare_23 rfl ?_
        refine e_iload_n (pc' := 25) dX3_partByShare_24 rfl rfl ?_
        refine e_idiv (pc' := 26) dX3_partByShare_25 rfl (by omega) (by omega) (by omega) (by omega) ?_
        refine e_goto (pc' := 30) dX3_partByShare_26 (by decide) ?_
        refine e_iast (pc' := 31) dX3_partByShare_30 rfl h_42 (by decide) (by omega) (by omega) ?_
        refine e_iinc (pc' := 34) (L' := [some (rv 39), some (iv p), some (iv all), some (iv 3)]) dX3_partByShare_31 rfl rfl (by decide) rfl ?_
        refine e_goto (pc' := 2) dX3_partByShare_34 (by decide) ?_
        refine e_iload_n (pc' := 3) dX3_partByShare_2 rfl rfl ?_
        refine e_iconst (pc' := 4) dX3_partByShare_3 rfl ?_
        refine e_icmpI (pc' := 7) (t := 37) dX3_partByShare_4 (by decide) rfl ⟨by omega, by omega⟩ ⟨by omega, by omega⟩ (fun _ => ?_) (fun c8_7 => absurd (show 3 ≤ (3 : Int) by decide) c8_7)
        exact e_vret dX3_partByShare_37 rfl ⟨rfl, Nat.le_refl _⟩ ⟨rfl, ⟨by unfold shS; first | (rw [if_pos (by omega)]; rfl) | (rw [if_neg (by omega)]; rfl), by unfold shS; first | (rw [if_pos (by omega)]; rfl) | (rw [if_neg (by omega)]; rfl), by unfold shS; first | (rw [if_pos (by omega)]; rfl) | (rw [if_neg (by omega)]; rfl)⟩, (by repeat (first | exact Fr.rf | (refine fr_I ?_ (by decide)) | (refine fr_J ?_ (by decide)) | (refine fr_C ?_ (by decide))))⟩

set_option maxHeartbeats 4000000 in
set_option maxRecDepth 100000 in
theorem s_number {X : AX} {d : Nat} {σ : SG} (p : Int) (hu0 : 0 ≤ σ.1 41 0 ∧ σ.1 41 0 ≤ 99) (hu1 : 0 ≤ σ.1 41 1 ∧ σ.1 41 1 ≤ 99) (hu2 : 0 ≤ σ.1 41 2 ∧ σ.1 41 2 ≤ 99) (hp : 0 ≤ p ∧ p ≤ 200) : Ev X 0 0 (d + 1) mX3_partByNumber 0 [some (rv 39), some (iv p), none, none] [] σ (QV (fun σ' => (σ'.1 42 0 = min (σ.1 41 0) p ∧ σ'.1 42 1 = min (σ.1 41 1) (p - min (σ.1 41 0) p) ∧ σ'.1 42 2 = min (σ.1 41 2) (p - min (σ.1 41 0) p - min (σ.1 41 1) (p - min (σ.1 41 0) p))) ∧ Fr [42] σ σ')) := by
  refine e_iload_n (pc' := 1) dX3_partByNumber_0 rfl rfl ?_
  refine e_istore_n (pc' := 2) (L' := [some (rv 39), some (iv p), some (iv p), none]) dX3_partByNumber_1 rfl (by decide) rfl ?_
  refine e_iconst (pc' := 3) dX3_partByNumber_2 rfl ?_
  refine e_istore_n (pc' := 4) (L' := [some (rv 39), some (iv p), some (iv p), some (iv 0)]) dX3_partByNumber_3 rfl (by decide) rfl ?_
  refine e_iload_n (pc' := 5) dX3_partByNumber_4 rfl rfl ?_
  refine e_iconst (pc' := 6) dX3_partByNumber_5 rfl ?_
  refine e_icmpI (pc' := 9) (t := 40) dX3_partByNumber_6 (by decide) rfl ⟨by omega, by omega⟩ ⟨by omega, by omega⟩ (fun c2_1 => absurd (show 3 ≤ (0 : Int) from c2_1) (by decide)) (fun _ => ?_)
  refine e_aload_n (pc' := 10) dX3_partByNumber_9 rfl rfl ?_
  refine e_getR (pc' := 13) dX3_partByNumber_10 rfl f_3_18 h_39 rfl ?_
  refine e_iload_n (pc' := 14) dX3_partByNumber_13 rfl rfl ?_
  refine e_aload_n (pc' := 15) dX3_partByNumber_14 rfl rfl ?_
  refine e_getR (pc' := 18) dX3_partByNumber_15 rfl f_3_15 h_39 rfl ?_
  refine e_iload_n (pc' := 19) dX3_partByNumber_18 rfl rfl ?_
  refine e_iald (pc' := 20) (v := (σ.1 41 0)) dX3_partByNumber_19 rfl h_41 (by decide) (by omega) (by omega) rfl ?_
  refine e_iload_n (pc' := 21) dX3_partByNumber_20 rfl rfl ?_
  refine e_min (pc' := 24) dX3_partByNumber_21 rfl p_3_77 ⟨by omega, by omega⟩ ⟨by omega, by omega⟩ (Nat.le_of_ble_eq_true rfl) ⟨Nat.zero_le _, Nat.zero_le _⟩ ?_
  refine e_iast (pc' := 25) dX3_partByNumber_24 rfl h_42 (by decide) (by omega) (by omega) ?_
  refine e_iload_n (pc' := 26) dX3_partByNumber_25 rfl rfl ?_
  refine e_aload_n (pc' := 27) dX3_partByNumber_26 rfl rfl ?_
  refine e_getR (pc' := 30) dX3_partByNumber_27 rfl f_3_18 h_39 rfl ?_
  refine e_iload_n (pc' := 31) dX3_partByNumber_30 rfl rfl ?_
  refine e_iald (pc' := 32) (v := (min (σ.1 41 0) p)) dX3_partByNumber_31 rfl h_42 (by decide) (by omega) (by omega) rfl ?_
  refine e_isub (pc' := 33) dX3_partByNumber_32 rfl ?_
  refine e_istore_n (pc' := 34) (L' := [some (rv 39), some (iv p), some (iv (p - (min (σ.1 41 0) p))), some (iv 0)]) dX3_partByNumber_33 rfl (by decide) rfl ?_
  refine e_iinc (pc' := 37) (L' := [some (rv 39), some (iv p), some (iv (p - (min (σ.1 41 0) p))), some (iv 1)]) dX3_partByNumber_34 rfl rfl (by decide) rfl ?_
  refine e_goto (pc' := 4) dX3_partByNumber_37 (by decide) ?_
  refine e_iload_n (pc' := 5) dX3_partByNumber_4 rfl rfl ?_
  refine e_iconst (pc' := 6) dX3_partByNumber_5 rfl ?_
  refine e_icmpI (pc' := 9) (t := 40) dX3_partByNumber_6 (by decide) rfl ⟨by omega, by omega⟩ ⟨by omega, by omega⟩ (fun c2_2 => absurd (show 3 ≤ (1 : Int) from c2_2) (by decide)) (fun _ => ?_)
  refine e_aload_n (pc' := 10) dX3_partByNumber_9 rfl rfl ?_
  refine e_getR (pc' := 13) dX3_partByNumber_10 rfl f_3_18 h_39 rfl ?_
  refine e_iload_n (pc' := 14) dX3_partByNumber_13 rfl rfl ?_
  refine e_aload_n (pc' := 15) dX3_partByNumber_14 rfl rfl ?_
  refine e_getR (pc' := 18) dX3_partByNumber_15 rfl f_3_15 h_39 rfl ?_
  refine e_iload_n (pc' := 19) dX3_partByNumber_18 rfl rfl ?_
  refine e_iald (pc' := 20) (v := (σ.1 41 1)) dX3_partByNumber_19 rfl h_41 (by decide) (by omega) (by omega) rfl ?_
  refine e_iload_n (pc' := 21) dX3_partByNumber_20 rfl rfl ?_
  refine e_min (pc' := 24) dX3_partByNumber_21 rfl p_3_77 ⟨by omega, by omega⟩ ⟨by omega, by omega⟩ (Nat.le_of_ble_eq_true rfl) ⟨Nat.zero_le _, Nat.zero_le _⟩ ?_
  refine e_iast (pc' := 25) dX3_partByNumber_24 rfl h_42 (by decide) (by omega) (by omega) ?_
  refine e_iload_n (pc' := 26) dX3_partByNumber_25 rfl rfl ?_
  refine e_aload_n (pc' := 27) dX3_partByNumber_26 rfl rfl ?_
  refine e_getR (pc' := 30) dX3_partByNumber_27 rfl f_3_18 h_39 rfl ?_
  refine e_iload_n (pc' := 31) dX3_partByNumber_30 rfl rfl ?_
  refine e_iald (pc' := 32) (v := (min (σ.1 41 1) (p - (min (σ.1 41 0) p)))) dX3_partByNumber_31 rfl h_42 (by decide) (by omega) (by omega) rfl ?_
  refine e_isub (pc' := 33) dX3_partByNumber_32 rfl ?_
  refine e_istore_n (pc' := 34) (L' := [some (rv 39), some (iv p), some (iv ((p - (min (σ.1 41 0) p)) - (min (σ.1 41 1) (p - (min (σ.1 41 0) p))))), some (iv 1)]) dX3_partByNumber_33 rfl (by decide) rfl ?_
  refine e_iinc (pc' := 37) (L' := [some (rv 39), some (iv p), some (iv ((p - (min (σ.1 41 0) p)) - (min (σ.1 41 1) (p - (min (σ.1 41 0) p))))), some (iv 2)]) dX3_partByNumber_34 rfl rfl (by decide) rfl ?_
  refine e_goto (pc' := 4) dX3_partByNumber_37 (by decide) ?_
  refine e_iload_n (pc' := 5) dX3_partByNumber_4 rfl rfl ?_
  refine e_iconst (pc' := 6) dX3_partByNumber_5 rfl ?_
  refine e_icmpI (pc' := 9) (t := 40) dX3_partByNumber_6 (by decide) rfl ⟨by omega, by omega⟩ ⟨by omega, by omega⟩ (fun c2_3 => absurd (show 3 ≤ (2 : Int) from c2_3) (by decide)) (fun _ => ?_)
  refine e_aload_n (pc' := 10) dX3_partByNumber_9 rfl rfl ?_
  refine e_getR (pc' := 13) dX3_partByNumber_10 rfl f_3_18 h_39 rfl ?_
  refine e_iload_n (pc' := 14) dX3_partByNumber_13 rfl rfl ?_
  refine e_aload_n (pc' := 15) dX3_partByNumber_14 rfl rfl ?_
  refine e_getR (pc' := 18) dX3_partByNumber_15 rfl f_3_15 h_39 rfl ?_
  refine e_iload_n (pc' := 19) dX3_partByNumber_18 rfl rfl ?_
  refine e_iald (pc' := 20) (v := (σ.1 41 2)) dX3_partByNumber_19 rfl h_41 (by decide) (by omega) (by omega) rfl ?_
  refine e_iload_n (pc' := 21) dX3_partByNumber_20 rfl rfl ?_
  refine e_min (pc' := 24) dX3_partByNumber_21 rfl p_3_77 ⟨by omega, by omega⟩ ⟨by omega, by omega⟩ (Nat.le_of_ble_eq_true rfl) ⟨Nat.zero_le _, Nat.zero_le _⟩ ?_
  refine e_iast (pc' := 25) dX3_partByNumber_24 rfl h_42 (by decide) (by omega) (by omega) ?_
  refine e_iload_n (pc' := 26) dX3_partByNumber_25 rfl rfl ?_
  refine e_aload_n (pc' := 27) dX3_partByNumber_26 rfl rfl ?_
  refine e_getR (pc' := 30) dX3_partByNumber_27 rfl f_3_18 h_39 rfl ?_
  refine e_iload_n (pc' := 31) dX3_partByNumber_30 rfl rfl ?_
  refine e_iald (pc' := 32) (v := (min (σ.1 41 2) ((p - (min (σ.1 41 0) p)) - (min (σ.1 41 1) (p - (min (σ.1 41 0) p)))))) dX3_partByNumber_31 rfl h_42 (by decide) (by omega) (by omega) rfl ?_
  refine e_isub (pc' := 33) dX3_partByNumber_32 rfl ?_
  refine e_istore_n (pc' := 34) (L' := [some (rv 39), some (iv p), some (iv (((p - (min (σ.1 41 0) p)) - (min (σ.1 41 1) (p - (min (σ.1 41 0) p)))) - (min (σ.1 41 2) ((p - (min (σ.1 41 0) p)) - (min (σ.1 41 1) (p - (min (σ.1 41 0) p))))))), some (iv 2)]) dX3_partByNumber_33 rfl (by decide) rfl ?_
  refine e_iinc (pc' := 37) (L' := [some (rv 39), some (iv p), some (iv (((p - (min (σ.1 41 0) p)) - (min (σ.1 41 1) (p - (min (σ.1 41 0) p)))) - (min (σ.1 41 2) ((p - (min (σ.1 41 0) p)) - (min (σ.1 41 1) (p - (min (σ.1 41 0) p))))))), some (iv 3)]) dX3_partByNumber_34 rfl rfl (by decide) rfl ?_
  refine e_goto (pc' := 4) dX3_partByNumber_37 (by decide) ?_
  refine e_iload_n (pc' := 5) dX3_partByNumber_4 rfl rfl ?_
  refine e_iconst (pc' := 6) dX3_partByNumber_5 rfl ?_
  refine e_icmpI (pc' := 9) (t := 40) dX3_partByNumber_6 (by decide) rfl ⟨by omega, by omega⟩ ⟨by omega, by omega⟩ (fun _ => ?_) (fun c2_4 => absurd (show 3 ≤ (3 : Int) by decide) c2_4)
  exact e_vret dX3_partByNumber_40 rfl ⟨rfl, Nat.le_refl _⟩ ⟨rfl, ⟨rfl, rfl, rfl⟩, (by repeat (first | exact Fr.rf | (refine fr_I ?_ (by decide)) | (refine fr_J ?_ (by decide)) | (refine fr_C ?_ (by decide))))⟩
