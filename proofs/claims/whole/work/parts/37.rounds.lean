/-- fifteen gifts in one number -/
def pkS (f : Int → Int) : Nat → Int64
  | 0 => 0
  | n + 1 => (pkS f n <<< ((Int32.ofInt 4).toInt64 &&& 63)) ||| Int64.ofInt (f n)
/-- was it so behind an earlier round -/
def wbB (f : Int → Int64) (v : Int64) : Nat → Bool
  | 0 => false
  | n + 1 => wbB f v n || decide (f n = v)
theorem wbB_t {f : Int → Int64} {v : Int64} {n m : Nat} (h : wbB f v n = true) (hm : n ≤ m) : wbB f v m = true := by
  induction m with
  | zero => have : n = 0 := by omega
            rw [← this]; exact h
  | succ m ih =>
    by_cases hq : n = m + 1
    · rw [← hq]; exact h
    · show (wbB f v m || _) = true
      rw [ih (by omega)]; rfl
def wbI (f : Int → Int64) (v : Int64) (i : Int) : Bool := wbB f v i.toNat
theorem wbI_s (f : Int → Int64) (v : Int64) {i : Int} (h : 0 ≤ i) : wbI f v (i + 1) = (wbI f v i || decide (f i = v)) := by
  unfold wbI
  rw [show (i + 1).toNat = i.toNat + 1 by omega]
  show (wbB f v i.toNat || decide (f ((i.toNat : Nat) : Int) = v)) = _
  rw [Int.toNat_of_nonneg h]

set_option maxHeartbeats 4000000 in
set_option maxRecDepth 100000 in
theorem s_packed_1 {X : AX} {d : Nat} {σ : SG} (ho : ScOK σ 1) : Ev X 0 0 d mX8_packedGifts 0 [some (rv 1), none, none, none] [] σ (QJ (fun r σ' => σ' = σ ∧ r = pkS (σ.1 6) 15)) := by
  have hgr : ∀ j : Int, 0 ≤ j → j < 15 → rg (σ.1 6 j) := fun j a c => by have h : 0 ≤ σ.1 6 j ∧ σ.1 6 j ≤ 12 := ho.2.2.2.2.2.2.1 j a c; exact ⟨by omega, by omega⟩
  refine e_lconst (pc' := 1) (z := 0) dX8_packedGifts_0 rfl rfl ?_
  refine e_lstore_n (pc' := 2) (L' := [some (rv 1), some (jv 0), none, none]) dX8_packedGifts_1 rfl (by decide) rfl ?_
  refine e_iconst (pc' := 3) dX8_packedGifts_2 rfl ?_
  refine e_istore_n (pc' := 4) (L' := [some (rv 1), some (jv 0), none, some (iv 0)]) dX8_packedGifts_3 rfl (by decide) rfl ?_
  refine e_iload_n (pc' := 5) dX8_packedGifts_4 rfl rfl ?_
  refine e_bipush (pc' := 7) (z := 15) dX8_packedGifts_5 rfl (by decide) ?_
  refine e_icmpI (pc' := 10) (t := 28) dX8_packedGifts_7 (by decide) rfl ⟨by omega, by omega⟩ ⟨by omega, by omega⟩ (fun c2_1 => absurd (show 15 ≤ (0 : Int) from c2_1) (by decide)) (fun _ => ?_)
  refine e_lload_n (pc' := 11) dX8_packedGifts_10 rfl rfl ?_
  refine e_iconst (pc' := 12) dX8_packedGifts_11 rfl ?_
  refine e_lshl (pc' := 13) dX8_packedGifts_12 rfl ?_
  refine e_aload_n (pc' := 14) dX8_packedGifts_13 rfl rfl ?_
  refine e_getR (pc' := 17) dX8_packedGifts_14 rfl f_8_24 h_1 rfl ?_
  refine e_iload_n (pc' := 18) dX8_packedGifts_17 rfl rfl ?_
  refine e_iald (pc' := 19) (v := (σ.1 6 0)) dX8_packedGifts_18 rfl h_6 (by decide) (by omega) (by omega) rfl ?_
  refine e_i2l (pc' := 20) dX8_packedGifts_19 rfl (by first | exact hgr _ (by decide) (by decide) | exact ⟨by omega, by omega⟩) ?_
  refine e_lor (pc' := 21) dX8_packedGifts_20 rfl ?_
  refine e_lstore_n (pc' := 22) (L' := [some (rv 1), some (jv ((0 <<< ((Int32.ofInt 4).toInt64 &&& 63)) ||| (Int64.ofInt (σ.1 6 0)))), none, some (iv 0)]) dX8_packedGifts_21 rfl (by decide) rfl ?_
  refine e_iinc (pc' := 25) (L' := [some (rv 1), some (jv ((0 <<< ((Int32.ofInt 4).toInt64 &&& 63)) ||| (Int64.ofInt (σ.1 6 0)))), none, some (iv 1)]) dX8_packedGifts_22 rfl rfl (by decide) rfl ?_
  refine e_goto (pc' := 4) dX8_packedGifts_25 (by decide) ?_
  refine e_iload_n (pc' := 5) dX8_packedGifts_4 rfl rfl ?_
  refine e_bipush (pc' := 7) (z := 15) dX8_packedGifts_5 rfl (by decide) ?_
  refine e_icmpI (pc' := 10) (t := 28) dX8_packedGifts_7 (by decide) rfl ⟨by omega, by omega⟩ ⟨by omega, by omega⟩ (fun c2_2 => absurd (show 15 ≤ (1 : Int) from c2_2) (by decide)) (fun _ => ?_)
  refine e_lload_n (pc' := 11) dX8_packedGifts_10 rfl rfl ?_
  refine e_iconst (pc' := 12) dX8_packedGifts_11 rfl ?_
  refine e_lshl (pc' := 13) dX8_packedGifts_12 rfl ?_
  refine e_aload_n (pc' := 14) dX8_packedGifts_13 rfl rfl ?_
  refine e_getR (pc' := 17) dX8_packedGifts_14 rfl f_8_24 h_1 rfl ?_
  refine e_iload_n (pc' := 18) dX8_packedGifts_17 rfl rfl ?_
  refine e_iald (pc' := 19) (v := (σ.1 6 1)) dX8_packedGifts_18 rfl h_6 (by decide) (by omega) (by omega) rfl ?_
  refine e_i2l (pc' := 20) dX8_packedGifts_19 rfl (by first | exact hgr _ (by decide) (by decide) | exact ⟨by omega, by omega⟩) ?_
  refine e_lor (pc' := 21) dX8_packedGifts_20 rfl ?_
  refine e_lstore_n (pc' := 22) (L' := [some (rv 1), some (jv ((((0 <<< ((Int32.ofInt 4).toInt64 &&& 63)) ||| (Int64.ofInt (σ.1 6 0))) <<< ((Int32.ofInt 4).toInt64 &&& 63)) ||| (Int64.ofInt (σ.1 6 1)))), none, some (iv 1)]) dX8_packedGifts_21 rfl (by decide) rfl ?_
  refine e_iinc (pc' := 25) (L' := [some (rv 1), some (jv ((((0 <<< ((Int32.ofInt 4).toInt64 &&& 63)) ||| (Int64.ofInt (σ.1 6 0))) <<< ((Int32.ofInt 4).toInt64 &&& 63)) ||| (Int64.ofInt (σ.1 6 1)))), none, some (iv 2)]) dX8_packedGifts_22 rfl rfl (by decide) rfl ?_
  refine e_goto (pc' := 4) dX8_packedGifts_25 (by decide) ?_
  refine e_iload_n (pc' := 5) dX8_packedGifts_4 rfl rfl ?_
  refine e_bipush (pc' := 7) (z := 15) dX8_packedGifts_5 rfl (by decide) ?_
  refine e_icmpI (pc' := 10) (t := 28) dX8_packedGifts_7 (by decide) rfl ⟨by omega, by omega⟩ ⟨by omega, by omega⟩ (fun c2_3 => absurd (show 15 ≤ (2 : Int) from c2_3) (by decide)) (fun _ => ?_)
  refine e_lload_n (pc' := 11) dX8_packedGifts_10 rfl rfl ?_
  refine e_iconst (pc' := 12) dX8_packedGifts_11 rfl ?_
  refine e_lshl (pc' := 13) dX8_packedGifts_12 rfl ?_
  refine e_aload_n (pc' := 14) dX8_packedGifts_13 rfl rfl ?_
  refine e_getR (pc' := 17) dX8_packedGifts_14 rfl f_8_24 h_1 rfl ?_
  refine e_iload_n (pc' := 18) dX8_packedGifts_17 rfl rfl ?_
  refine e_iald (pc' := 19) (v := (σ.1 6 2)) dX8_packedGifts_18 rfl h_6 (by decide) (by omega) (by omega) rfl ?_
  refine e_i2l (pc' := 20) dX8_packedGifts_19 rfl (by first | exact hgr _ (by decide) (by decide) | exact ⟨by omega, by omega⟩) ?_
  refine e_lor (pc' := 21) dX8_packedGifts_20 rfl ?_
  refine e_lstore_n (pc' := 22) (L' := [some (rv 1), some (jv ((((((0 <<< ((Int32.ofInt 4).toInt64 &&& 63)) ||| (Int64.ofInt (σ.1 6 0))) <<< ((Int32.ofInt 4).toInt64 &&& 63)) ||| (Int64.ofInt (σ.1 6 1))) <<< ((Int32.ofInt 4).toInt64 &&& 63)) ||| (Int64.ofInt (σ.1 6 2)))), none, some (iv 2)]) dX8_packedGifts_21 rfl (by decide) rfl ?_
  refine e_iinc (pc' := 25) (L' := [some (rv 1), some (jv ((((((0 <<< ((Int32.ofInt 4).toInt64 &&& 63)) ||| (Int64.ofInt (σ.1 6 0))) <<< ((Int32.ofInt 4).toInt64 &&& 63)) ||| (Int64.ofInt (σ.1 6 1))) <<< ((Int32.ofInt 4).toInt64 &&& 63)) ||| (Int64.ofInt (σ.1 6 2)))), none, some (iv 3)]) dX8_packedGifts_22 rfl rfl (by decide) rfl ?_
  refine e_goto (pc' := 4) dX8_packedGifts_25 (by decide) ?_
  refine e_iload_n (pc' := 5) dX8_packedGifts_4 rfl rfl ?_
  refine e_bipush (pc' := 7) (z := 15) dX8_packedGifts_5 rfl (by decide) ?_
  refine e_icmpI (pc' := 10) (t := 28) dX8_packedGifts_7 (by decide) rfl ⟨by omega, by omega⟩ ⟨by omega, by omega⟩ (fun c2_4 => absurd (show 15 ≤ (3 : Int) from c2_4) (by decide)) (fun _ => ?_)
  refine e_lload_n (pc' := 11) dX8_packedGifts_10 rfl rfl ?_
  refine e_iconst (pc' := 12) dX8_packedGifts_11 rfl ?_
  refine e_lshl (pc' := 13) dX8_packedGifts_12 rfl ?_
  refine e_aload_n (pc' := 14) dX8_packedGifts_13 rfl rfl ?_
  refine e_getR (pc' := 17) dX8_packedGifts_14 rfl f_8_24 h_1 rfl ?_
  refine e_iload_n (pc' := 18) dX8_packedGifts_17 rfl rfl ?_
  refine e_iald (pc' := 19) (v := (σ.1 6 3)) dX8_packedGifts_18 rfl h_6 (by decide) (by omega) (by omega) rfl ?_
  refine e_i2l (pc' := 20) dX8_packedGifts_19 rfl (by first | exact hgr _ (by decide) (by decide) | exact ⟨by omega, by omega⟩) ?_
  refine e_lor (pc' := 21) dX8_packedGifts_20 rfl ?_
  refine e_lstore_n (pc' := 22) (L' := [some (rv 1), some (jv ((((((((0 <<< ((Int32.ofInt 4).toInt64 &&& 63)) ||| (Int64.ofInt (σ.1 6 0))) <<< ((Int32.ofInt 4).toInt64 &&& 63)) ||| (Int64.ofInt (σ.1 6 1))) <<< ((Int32.ofInt 4).toInt64 &&& 63)) ||| (Int64.ofInt (σ.1 6 2))) <<< ((Int32.ofInt 4).toInt64 &&& 63)) ||| (Int64.ofInt (σ.1 6 3)))), none, some (iv 3)]) dX8_packedGifts_21 rfl (by decide) rfl ?_
  refine e_iinc (pc' := 25) (L' := [some (rv 1), some (jv ((((((((0 <<< ((Int32.ofInt 4).toInt64 &&& 63)) ||| (Int64.ofInt (σ.1 6 0))) <<< ((Int32.ofInt 4).toInt64 &&& 63)) ||| (Int64.ofInt (σ.1 6 1))) <<< ((Int32.ofInt 4).toInt64 &&& 63)) ||| (Int64.ofInt (σ.1 6 2))) <<< ((Int32.ofInt 4).toInt64 &&& 63)) ||| (Int64.ofInt (σ.1 6 3)))), none, some (iv 4)]) dX8_packedGifts_22 rfl rfl (by decide) rfl ?_
  refine e_goto (pc' := 4) dX8_packedGifts_25 (by decide) ?_
  refine e_iload_n (pc' := 5) dX8_packedGifts_4 rfl rfl ?_
  refine e_bipush (pc' := 7) (z := 15) dX8_packedGifts_5 rfl (by decide) ?_
  refine e_icmpI (pc' := 10) (t := 28) dX8_packedGifts_7 (by decide) rfl ⟨by omega, by omega⟩ ⟨by omega, by omega⟩ (fun c2_5 => absurd (show 15 ≤ (4 : Int) from c2_5) (by decide)) (fun _ => ?_)
  refine e_lload_n (pc' := 11) dX8_packedGifts_10 rfl rfl ?_
  refine e_iconst (pc' := 12) dX8_packedGifts_11 rfl ?_
  refine e_lshl (pc' := 13) dX8_packedGifts_12 rfl ?_
  refine e_aload_n (pc' := 14) dX8_packedGifts_13 rfl rfl ?_
  refine e_getR (pc' := 17) dX8_packedGifts_14 rfl f_8_24 h_1 rfl ?_
  refine e_iload_n (pc' := 18) dX8_packedGifts_17 rfl rfl ?_
  refine e_iald (pc' := 19) (v := (σ.1 6 4)) dX8_packedGifts_18 rfl h_6 (by decide) (by omega) (by omega) rfl ?_
  refine e_i2l (pc' := 20) dX8_packedGifts_19 rfl (by first | exact hgr _ (by decide) (by decide) | exact ⟨by omega, by omega⟩) ?_
  refine e_lor (pc' := 21) dX8_packedGifts_20 rfl ?_
  refine e_lstore_n (pc' := 22) (L' := [some (rv 1), some (jv ((((((((((0 <<< ((Int32.ofInt 4).toInt64 &&& 63)) ||| (Int64.ofInt (σ.1 6 0))) <<< ((Int32.ofInt 4).toInt64 &&& 63)) ||| (Int64.ofInt (σ.1 6 1))) <<< ((Int32.ofInt 4).toInt64 &&& 63)) ||| (Int64.ofInt (σ.1 6 2))) <<< ((Int32.ofInt 4).toInt64 &&& 63)) ||| (Int64.ofInt (σ.1 6 3))) <<< ((Int32.ofInt 4).toInt64 &&& 63)) ||| (Int64.ofInt (σ.1 6 4)))), none, some (iv 4)]) dX8_packedGifts_21 rfl (by decide) rfl ?_
  refine e_iinc (pc' := 25) (L' := [some (rv 1), some (jv ((((((((((0 <<< ((Int32.ofInt 4).toInt64 &&& 63)) ||| (Int64.ofInt (σ.1 6 0))) <<< ((Int32.ofInt 4).toInt64 &&& 63)) ||| (Int64.ofInt (σ.1 6 1))) <<< ((Int32.ofInt 4).toInt64 &&& 63)) ||| (Int64.ofInt (σ.1 6 2))) <<< ((Int32.ofInt 4).toInt64 &&& 63)) ||| (Int64.ofInt (σ.1 6 3))) <<< ((Int32.ofInt 4).toInt64 &&& 63)) ||| (Int64.ofInt (σ.1 6 4)))), none, some (iv 5)]) dX8_packedGifts_22 rfl rfl (by decide) rfl ?_
  refine e_goto (pc' := 4) dX8_packedGifts_25 (by decide) ?_
  refine e_iload_n (pc' := 5) dX8_packedGifts_4 rfl rfl ?_
  refine e_bipush (pc' := 7) (z := 15) dX8_packedGifts_5 rfl (by decide) ?_
  refine e_icmpI (pc' := 10) (t := 28) dX8_packedGifts_7 (by decide) rfl ⟨by omega, by omega⟩ ⟨by omega, by omega⟩ (fun c2_6 => absurd (show 15 ≤ (5 : Int) from c2_6) (by decide)) (fun _ => ?_)
  refine e_lload_n (pc' := 11) dX8_packedGifts_10 rfl rfl ?_
  refine e_iconst (pc' := 12) dX8_packedGifts_11 rfl ?_
  refine e_lshl (pc' := 13) dX8_packedGifts_12 rfl ?_
  refine e_aload_n (pc' := 14) dX8_packedGifts_13 rfl rfl ?_
  refine e_getR (pc' := 17) dX8_packedGifts_14 rfl f_8_24 h_1 rfl ?_
  refine e_iload_n (pc' := 18) dX8_packedGifts_17 rfl rfl ?_
  refine e_iald (pc' := 19) (v := (σ.1 6 5)) dX8_packedGifts_18 rfl h_6 (by decide) (by omega) (by omega) rfl ?_
  refine e_i2l (pc' := 20) dX8_packedGifts_19 rfl (by first | exact hgr _ (by decide) (by decide) | exact ⟨by omega, by omega⟩) ?_
  refine e_lor (pc' := 21) dX8_packedGifts_20 rfl ?_
  refine e_lstore_n (pc' := 22) (L' := [some (rv 1), some (jv ((((((((((((0 <<< ((Int32.ofInt 4).toInt64 &&& 63)) ||| (Int64.ofInt (σ.1 6 0))) <<< ((Int32.ofInt 4).toInt64 &&& 63)) ||| (Int64.ofInt (σ.1 6 1))) <<< ((Int32.ofInt 4).toInt64 &&& 63)) ||| (Int64.ofInt (σ.1 6 2))) <<< ((Int32.ofInt 4).toInt64 &&& 63)) ||| (Int64.ofInt (σ.1 6 3))) <<< ((Int32.ofInt 4).toInt64 &&& 63)) ||| (Int64.ofInt (σ.1 6 4))) <<< ((Int32.ofInt 4).toInt64 &&& 63)) ||| (Int64.ofInt (σ.1 6 5)))), none, some (iv 5)]) dX8_packedGifts_21 rfl (by decide) rfl ?_
  refine e_iinc (pc' := 25) (L' := [some (rv 1), some (jv ((((((((((((0 <<< ((Int32.ofInt 4).toInt64 &&& 63)) ||| (Int64.ofInt (σ.1 6 0))) <<< ((Int32.ofInt 4).toInt64 &&& 63)) ||| (Int64.ofInt (σ.1 6 1))) <<< ((Int32.ofInt 4).toInt64 &&& 63)) ||| (Int64.ofInt (σ.1 6 2))) <<< ((Int32.ofInt 4).toInt64 &&& 63)) ||| (Int64.ofInt (σ.1 6 3))) <<< ((Int32.ofInt 4).toInt64 &&& 63)) ||| (Int64.ofInt (σ.1 6 4))) <<< ((Int32.ofInt 4).toInt64 &&& 63)) ||| (Int64.ofInt (σ.1 6 5)))), none, some (iv 6)]) dX8_packedGifts_22 rfl rfl (by decide) rfl ?_
  refine e_goto (pc' := 4) dX8_packedGifts_25 (by decide) ?_
  refine e_iload_n (pc' := 5) dX8_packedGifts_4 rfl rfl ?_
  refine e_bipush (pc' := 7) (z := 15) dX8_packedGifts_5 rfl (by decide) ?_
  refine e_icmpI (pc' := 10) (t := 28) dX8_packedGifts_7 (by decide) rfl ⟨by omega, by omega⟩ ⟨by omega, by omega⟩ (fun c2_7 => absurd (show 15 ≤ (6 : Int) from c2_7) (by decide)) (fun _ => ?_)
  refine e_lload_n (pc' := 11) dX8_packedGifts_10 rfl rfl ?_
  refine e_iconst (pc' := 12) dX8_packedGifts_11 rfl ?_
  refine e_lshl (pc' := 13) dX8_packedGifts_12 rfl ?_
  refine e_aload_n (pc' := 14) dX8_packedGifts_13 rfl rfl ?_
  refine e_getR (pc' := 17) dX8_packedGifts_14 rfl f_8_24 h_1 rfl ?_
  refine e_iload_n (pc' := 18) dX8_packedGifts_17 rfl rfl ?_
  refine e_iald (pc' := 19) (v := (σ.1 6 6)) dX8_packedGifts_18 rfl h_6 (by decide) (by omega) (by omega) rfl ?_
  refine e_i2l (pc' := 20) dX8_packedGifts_19 rfl (by first | exact hgr _ (by decide) (by decide) | exact ⟨by omega, by omega⟩) ?_
  refine e_lor (pc' := 21) dX8_packedGifts_20 rfl ?_
  refine e_lstore_n (pc' := 22) (L' := [some (rv 1), some (jv ((((((((((((((0 <<< ((Int32.ofInt 4).toInt64 &&& 63)) ||| (Int64.ofInt (σ.1 6 0))) <<< ((Int32.ofInt 4).toInt64 &&& 63)) ||| (Int64.ofInt (σ.1 6 1))) <<< ((Int32.ofInt 4).toInt64 &&& 63)) ||| (Int64.ofInt (σ.1 6 2))) <<< ((Int32.ofInt 4).toInt64 &&& 63)) ||| (Int64.ofInt (σ.1 6 3))) <<< ((Int32.ofInt 4).toInt64 &&& 63)) ||| (Int64.ofInt (σ.1 6 4))) <<< ((Int32.ofInt 4).toInt64 &&& 63)) ||| (Int64.ofInt (σ.1 6 5))) <<< ((Int32.ofInt 4).toInt64 &&& 63)) ||| (Int64.ofInt (σ.1 6 6)))), none, some (iv 6)]) dX8_packedGifts_21 rfl (by decide) rfl ?_
  refine e_iinc (pc' := 25) (L' := [some (rv 1), some (jv ((((((((((((((0 <<< ((Int32.ofInt 4).toInt64 &&& 63)) ||| (Int64.ofInt (σ.1 6 0))) <<< ((Int32.ofInt 4).toInt64 &&& 63)) ||| (Int64.ofInt (σ.1 6 1))) <<< ((Int32.ofInt 4).toInt64 &&& 63)) ||| (Int64.ofInt (σ.1 6 2))) <<< ((Int32.ofInt 4).toInt64 &&& 63)) ||| (Int64.ofInt (σ.1 6 3))) <<< ((Int32.ofInt 4).toInt64 &&& 63)) ||| (Int64.ofInt (σ.1 6 4))) <<< ((Int32.ofInt 4).toInt64 &&& 63)) ||| (Int64.ofInt (σ.1 6 5))) <<< ((Int32.ofInt 4).toInt64 &&& 63)) ||| (Int64.ofInt (σ.1 6 6)))), none, some (iv 7)]) dX8_packedGifts_22 rfl rfl (by decide) rfl ?_
  refine e_goto (pc' := 4) dX8_packedGifts_25 (by decide) ?_
  refine e_iload_n (pc' := 5) dX8_packedGifts_4 rfl rfl ?_
  refine e_bipush (pc' := 7) (z := 15) dX8_packedGifts_5 rfl (by decide) ?_
  refine e_icmpI (pc' := 10) (t := 28) dX8_packedGifts_7 (by decide) rfl ⟨by omega, by omega⟩ ⟨by omega, by omega⟩ (fun c2_8 => absurd (show 15 ≤ (7 : Int) from c2_8) (by decide)) (fun _ => ?_)
  refine e_lload_n (pc' := 11) dX8_packedGifts_10 rfl rfl ?_
  refine e_iconst (pc' := 12) dX8_packedGifts_11 rfl ?_
  refine e_lshl (pc' := 13) dX8_packedGifts_12 rfl ?_
  refine e_aload_n (pc' := 14) dX8_packedGifts_13 rfl rfl ?_
  refine e_getR (pc' := 17) dX8_packedGifts_14 rfl f_8_24 h_1 rfl ?_
  refine e_iload_n (pc' := 18) dX8_packedGifts_17 rfl rfl ?_
  refine e_iald (pc' := 19) (v := (σ.1 6 7)) dX8_packedGifts_18 rfl h_6 (by decide) (by omega) (by omega) rfl ?_
  refine e_i2l (pc' := 20) dX8_packedGifts_19 rfl (by first | exact hgr _ (by decide) (by decide) | exact ⟨by omega, by omega⟩) ?_
  refine e_lor (pc' := 21) dX8_packedGifts_20 rfl ?_
  refine e_lstore_n (pc' := 22) (L' := [some (rv 1), some (jv ((((((((((((((((0 <<< ((Int32.ofInt 4).toInt64 &&& 63)) ||| (Int64.ofInt (σ.1 6 0))) <<< ((Int32.ofInt 4).toInt64 &&& 63)) ||| (Int64.ofInt (σ.1 6 1))) <<< ((Int32.ofInt 4).toInt64 &&& 63)) ||| (Int64.ofInt (σ.1 6 2))) <<< ((Int32.ofInt 4).toInt64 &&& 63)) ||| (Int64.ofInt (σ.1 6 3))) <<< ((Int32.ofInt 4).toInt64 &&& 63)) ||| (Int64.ofInt (σ.1 6 4))) <<< ((Int32.ofInt 4).toInt64 &&& 63)) ||| (Int64.ofInt (σ.1 6 5))) <<< ((Int32.ofInt 4).toInt64 &&& 63)) ||| (Int64.ofInt (σ.1 6 6))) <<< ((Int32.ofInt 4).toInt64 &&& 63)) ||| (Int64.ofInt (σ.1 6 7)))), none, some (iv 7)]) dX8_packedGifts_21 rfl (by decide) rfl ?_
  refine e_iinc (pc' := 25) (L' := [some (rv 1), some (jv ((((((((((((((((0 <<< ((Int32.ofInt 4).toInt64 &&& 63)) ||| (Int64.ofInt (σ.1 6 0))) <<< ((Int32.ofInt 4).toInt64 &&& 63)) ||| (Int64.ofInt (σ.1 6 1))) <<< ((Int32.ofInt 4).toInt64 &&& 63)) ||| (Int64.ofInt (σ.1 6 2))) <<< ((Int32.ofInt 4).toInt64 &&& 63)) ||| (Int64.ofInt (σ.1 6 3))) <<< ((Int32.ofInt 4).toInt64 &&& 63)) ||| (Int64.ofInt (σ.1 6 4))) <<< ((Int32.ofInt 4).toInt64 &&& 63)) ||| (Int64.ofInt (σ.1 6 5))) <<< ((Int32.ofInt 4).toInt64 &&& 63)) ||| (Int64.ofInt (σ.1 6 6))) <<< ((Int32.ofInt 4).toInt64 &&& 63)) ||| (Int64.ofInt (σ.1 6 7)))), none, some (iv 8)]) dX8_packedGifts_22 rfl rfl (by decide) rfl ?_
  refine e_goto (pc' := 4) dX8_packedGifts_25 (by decide) ?_
  refine e_iload_n (pc' := 5) dX8_packedGifts_4 rfl rfl ?_
  refine e_bipush (pc' := 7) (z := 15) dX8_packedGifts_5 rfl (by decide) ?_
  refine e_icmpI (pc' := 10) (t := 28) dX8_packedGifts_7 (by decide) rfl ⟨by omega, by omega⟩ ⟨by omega, by omega⟩ (fun c2_9 => absurd (show 15 ≤ (8 : Int) from c2_9) (by decide)) (fun _ => ?_)
  refine e_lload_n (pc' := 11) dX8_packedGifts_10 rfl rfl ?_
  refine e_iconst (pc' := 12) dX8_packedGifts_11 rfl ?_
  refine e_lshl (pc' := 13) dX8_packedGifts_12 rfl ?_
  refine e_aload_n (pc' := 14) dX8_packedGifts_13 rfl rfl ?_
  refine e_getR (pc' := 17) dX8_packedGifts_14 rfl f_8_24 h_1 rfl ?_
  refine e_iload_n (pc' := 18) dX8_packedGifts_17 rfl rfl ?_
  refine e_iald (pc' := 19) (v := (σ.1 6 8)) dX8_packedGifts_18 rfl h_6 (by decide) (by omega) (by omega) rfl ?_
  refine e_i2l (pc' := 20) dX8_packedGifts_19 rfl (by first | exact hgr _ (by decide) (by decide) | exact ⟨by omega, by omega⟩) ?_
  refine e_lor (pc' := 21) dX8_packedGifts_20 rfl ?_
  refine e_lstore_n (pc' := 22) (L' := [some (rv 1), some (jv ((((((((((((((((((0 <<< ((Int32.ofInt 4).toInt64 &&& 63)) ||| (Int64.ofInt (σ.1 6 0))) <<< ((Int32.ofInt 4).toInt64 &&& 63)) ||| (Int64.ofInt (σ.1 6 1))) <<< ((Int32.ofInt 4).toInt64 &&& 63)) ||| (Int64.ofInt (σ.1 6 2))) <<< ((Int32.ofInt 4).toInt64 &&& 63)) ||| (Int64.ofInt (σ.1 6 3))) <<< ((Int32.ofInt 4).toInt64 &&& 63)) ||| (Int64.ofInt (σ.1 6 4))) <<< ((Int32.ofInt 4).toInt64 &&& 63)) ||| (Int64.ofInt (σ.1 6 5))) <<< ((Int32.ofInt 4).toInt64 &&& 63)) ||| (Int64.ofInt (σ.1 6 6))) <<< ((Int32.ofInt 4).toInt64 &&& 63)) ||| (Int64.ofInt (σ.1 6 7))) <<< ((Int32.ofInt 4).toInt64 &&& 63)) ||| (Int64.ofInt (σ.1 6 8)))), none, some (iv 8)]) dX8_packedGifts_21 rfl (by decide) rfl ?_
  refine e_iinc (pc' := 25) (L' := [some (rv 1), some (jv ((((((((((((((((((0 <<< ((Int32.ofInt 4).toInt64 &&& 63)) ||| (Int64.ofInt (σ.1 6 0))) <<< ((Int32.ofInt 4).toInt64 &&& 63)) ||| (Int64.ofInt (σ.1 6 1))) <<< ((Int32.ofInt 4).toInt64 &&& 63)) ||| (Int64.ofInt (σ.1 6 2))) <<< ((Int32.ofInt 4).toInt64 &&& 63)) ||| (Int64.ofInt (σ.1 6 3))) <<< ((Int32.ofInt 4).toInt64 &&& 63)) ||| (Int64.ofInt (σ.1 6 4))) <<< ((Int32.ofInt 4).toInt64 &&& 63)) ||| (Int64.ofInt (σ.1 6 5))) <<< ((Int32.ofInt 4).toInt64 &&& 63)) ||| (Int64.ofInt (σ.1 6 6))) <<< ((Int32.ofInt 4).toInt64 &&& 63)) ||| (Int64.ofInt (σ.1 6 7))) <<< ((Int32.ofInt 4).toInt64 &&& 63)) ||| (Int64.ofInt (σ.1 6 8)))), none, some (iv 9)]) dX8_packedGifts_22 rfl rfl (by decide) rfl ?_
  refine e_goto (pc' := 4) dX8_packedGifts_25 (by decide) ?_
  refine e_iload_n (pc' := 5) dX8_packedGifts_4 rfl rfl ?_
  refine e_bipush (pc' := 7) (z := 15) dX8_packedGifts_5 rfl (by decide) ?_
  refine e_icmpI (pc' := 10) (t := 28) dX8_packedGifts_7 (by decide) rfl ⟨by omega, by omega⟩ ⟨by omega, by omega⟩ (fun c2_10 => absurd (show 15 ≤ (9 : Int) from c2_10) (by decide)) (fun _ => ?_)
  refine e_lload_n (pc' := 11) dX8_packedGifts_10 rfl rfl ?_
  refine e_iconst (pc' := 12) dX8_packedGifts_11 rfl ?_
  refine e_lshl (pc' := 13) dX8_packedGifts_12 rfl ?_
  refine e_aload_n (pc' := 14) dX8_packedGifts_13 rfl rfl ?_
  refine e_getR (pc' := 17) dX8_packedGifts_14 rfl f_8_24 h_1 rfl ?_
  refine e_iload_n (pc' := 18) dX8_packedGifts_17 rfl rfl ?_
  refine e_iald (pc' := 19) (v := (σ.1 6 9)) dX8_packedGifts_18 rfl h_6 (by decide) (by omega) (by omega) rfl ?_
  refine e_i2l (pc' := 20) dX8_packedGifts_19 rfl (by first | exact hgr _ (by decide) (by decide) | exact ⟨by omega, by omega⟩) ?_
  refine e_lor (pc' := 21) dX8_packedGifts_20 rfl ?_
  refine e_lstore_n (pc' := 22) (L' := [some (rv 1), some (jv ((((((((((((((((((((0 <<< ((Int32.ofInt 4).toInt64 &&& 63)) ||| (Int64.ofInt (σ.1 6 0))) <<< ((Int32.ofInt 4).toInt64 &&& 63)) ||| (Int64.ofInt (σ.1 6 1))) <<< ((Int32.ofInt 4).toInt64 &&& 63)) ||| (Int64.ofInt (σ.1 6 2))) <<< ((Int32.ofInt 4).toInt64 &&& 63)) ||| (Int64.ofInt (σ.1 6 3))) <<< ((Int32.ofInt 4).toInt64 &&& 63)) ||| (Int64.ofInt (σ.1 6 4))) <<< ((Int32.ofInt 4).toInt64 &&& 63)) ||| (Int64.ofInt (σ.1 6 5))) <<< ((Int32.ofInt 4).toInt64 &&& 63)) ||| (Int64.ofInt (σ.1 6 6))) <<< ((Int32.ofInt 4).toInt64 &&& 63)) ||| (Int64.ofInt (σ.1 6 7))) <<< ((Int32.ofInt 4).toInt64 &&& 63)) ||| (Int64.ofInt (σ.1 6 8))) <<< ((Int32.ofInt 4).toInt64 &&& 63)) ||| (Int64.ofInt (σ.1 6 9)))), none, some (iv 9)]) dX8_packedGifts_21 rfl (by decide) rfl ?_
  refine e_iinc (pc' := 25) (L' := [some (rv 1), some (jv ((((((((((((((((((((0 <<< ((Int32.ofInt 4).toInt64 &&& 63)) ||| (Int64.ofInt (σ.1 6 0))) <<< ((Int32.ofInt 4).toInt64 &&& 63)) ||| (Int64.ofInt (σ.1 6 1))) <<< ((Int32.ofInt 4).toInt64 &&& 63)) ||| (Int64.ofInt (σ.1 6 2))) <<< ((Int32.ofInt 4).toInt64 &&& 63)) ||| (Int64.ofInt (σ.1 6 3))) <<< ((Int32.ofInt 4).toInt64 &&& 63)) ||| (Int64.ofInt (σ.1 6 4))) <<< ((Int32.ofInt 4).toInt64 &&& 63)) ||| (Int64.ofInt (σ.1 6 5))) <<< ((Int32.ofInt 4).toInt64 &&& 63)) ||| (Int64.ofInt (σ.1 6 6))) <<< ((Int32.ofInt 4).toInt64 &&& 63)) ||| (Int64.ofInt (σ.1 6 7))) <<< ((Int32.ofInt 4).toInt64 &&& 63)) ||| (Int64.ofInt (σ.1 6 8))) <<< ((Int32.ofInt 4).toInt64 &&& 63)) ||| (Int64.ofInt (σ.1 6 9)))), none, some (iv 10)]) dX8_packedGifts_22 rfl rfl (by decide) rfl ?_
  refine e_goto (pc' := 4) dX8_packedGifts_25 (by decide) ?_
  refine e_iload_n (pc' := 5) dX8_packedGifts_4 rfl rfl ?_
  refine e_bipush (pc' := 7) (z := 15) dX8_packedGifts_5 rfl (by decide) ?_
  refine e_icmpI (pc' := 10) (t := 28) dX8_packedGifts_7 (by decide) rfl ⟨by omega, by omega⟩ ⟨by omega, by omega⟩ (fun c2_11 => absurd (show 15 ≤ (10 : Int) from c2_11) (by decide)) (fun _ => ?_)
  refine e_lload_n (pc' := 11) dX8_packedGifts_10 rfl rfl ?_
  refine e_iconst (pc' := 12) dX8_packedGifts_11 rfl ?_
  refine e_lshl (pc' := 13) dX8_packedGifts_12 rfl ?_
  refine e_aload_n (pc' := 14) dX8_packedGifts_13 rfl rfl ?_
  refine e_getR (pc' := 17) dX8_packedGifts_14 rfl f_8_24 h_1 rfl ?_
  refine e_iload_n (pc' := 18) dX8_packedGifts_17 rfl rfl ?_
  refine e_iald (pc' := 19) (v := (σ.1 6 10)) dX8_packedGifts_18 rfl h_6 (by decide) (by omega) (by omega) rfl ?_
  refine e_i2l (pc' := 20) dX8_packedGifts_19 rfl (by first | exact hgr _ (by decide) (by decide) | exact ⟨by omega, by omega⟩) ?_
  refine e_lor (pc' := 21) dX8_packedGifts_20 rfl ?_
  refine e_lstore_n (pc' := 22) (L' := [some (rv 1), some (jv ((((((((((((((((((((((0 <<< ((Int32.ofInt 4).toInt64 &&& 63)) ||| (Int64.ofInt (σ.1 6 0))) <<< ((Int32.ofInt 4).toInt64 &&& 63)) ||| (Int64.ofInt (σ.1 6 1))) <<< ((Int32.ofInt 4).toInt64 &&& 63)) ||| (Int64.ofInt (σ.1 6 2))) <<< ((Int32.ofInt 4).toInt64 &&& 63)) ||| (Int64.ofInt (σ.1 6 3))) <<< ((Int32.ofInt 4).toInt64 &&& 63)) ||| (Int64.ofInt (σ.1 6 4))) <<< ((Int32.ofInt 4).toInt64 &&& 63)) ||| (Int64.ofInt (σ.1 6 5))) <<< ((Int32.ofInt 4).toInt64 &&& 63)) ||| (Int64.ofInt (σ.1 6 6))) <<< ((Int32.ofInt 4).toInt64 &&& 63)) ||| (Int64.ofInt (σ.1 6 7))) <<< ((Int32.ofInt 4).toInt64 &&& 63)) ||| (Int64.ofInt (σ.1 6 8))) <<< ((Int32.ofInt 4).toInt64 &&& 63)) ||| (Int64.ofInt (σ.1 6 9))) <<< ((Int32.ofInt 4).toInt64 &&& 63)) ||| (Int64.ofInt (σ.1 6 10)))), none, some (iv 10)]) dX8_packedGifts_21 rfl (by decide) rfl ?_
  refine e_iinc (pc' := 25) (L' := [some (rv 1), some (jv ((((((((((((((((((((((0 <<< ((Int32.ofInt 4).toInt64 &&& 63)) ||| (Int64.ofInt (σ.1 6 0))) <<< ((Int32.ofInt 4).toInt64 &&& 63)) ||| (Int64.ofInt (σ.1 6 1))) <<< ((Int32.ofInt 4).toInt64 &&& 63)) ||| (Int64.ofInt (σ.1 6 2))) <<< ((Int32.ofInt 4).toInt64 &&& 63)) ||| (Int64.ofInt (σ.1 6 3))) <<< ((Int32.ofInt 4).toInt64 &&& 63)) ||| (Int64.ofInt (σ.1 6 4))) <<< ((Int32.ofInt 4).toInt64 &&& 63)) ||| (Int64.ofInt (σ.1 6 5))) <<< ((Int32.ofInt 4).toInt64 &&& 63)) ||| (Int64.ofInt (σ.1 6 6))) <<< ((Int32.ofInt 4).toInt64 &&& 63)) ||| (Int64.ofInt (σ.1 6 7))) <<< ((Int32.ofInt 4).toInt64 &&& 63)) ||| (Int64.ofInt (σ.1 6 8))) <<< ((Int32.ofInt 4).toInt64 &&& 63)) ||| (Int64.ofInt (σ.1 6 9))) <<< ((Int32.ofInt 4).toInt64 &&& 63)) ||| (Int64.ofInt (σ.1 6 10)))), none, some (iv 11)]) dX8_packedGifts_22 rfl rfl (by decide) rfl ?_
  refine e_goto (pc' := 4) dX8_packedGifts_25 (by decide) ?_
  refine e_iload_n (pc' := 5) dX8_packedGifts_4 rfl rfl ?_
  refine e_bipush (pc' := 7) (z := 15) dX8_packedGifts_5 rfl (by decide) ?_
  refine e_icmpI (pc' := 10) (t := 28) dX8_packedGifts_7 (by decide) rfl ⟨by omega, by omega⟩ ⟨by omega, by omega⟩ (fun c2_12 => absurd (show 15 ≤ (11 : Int) from c2_12) (by decide)) (fun _ => ?_)
  refine e_lload_n (pc' := 11) dX8_packedGifts_10 rfl rfl ?_
  refine e_iconst (pc' := 12) dX8_packedGifts_11 rfl ?_
  refine e_lshl (pc' := 13) dX8_packedGifts_12 rfl ?_
  refine e_aload_n (pc' := 14) dX8_packedGifts_13 rfl rfl ?_
  refine e_getR (pc' := 17) dX8_packedGifts_14 rfl f_8_24 h_1 rfl ?_
  refine e_iload_n (pc' := 18) dX8_packedGifts_17 rfl rfl ?_
  refine e_iald (pc' := 19) (v := (σ.1 6 11)) dX8_packedGifts_18 rfl h_6 (by decide) (by omega) (by omega) rfl ?_
  refine e_i2l (pc' := 20) dX8_packedGifts_19 rfl (by first | exact hgr _ (by decide) (by decide) | exact ⟨by omega, by omega⟩) ?_
  refine e_lor (pc' := 21) dX8_packedGifts_20 rfl ?_
  refine e_lstore_n (pc' := 22) (L' := [some (rv 1), some (jv ((((((((((((((((((((((((0 <<< ((Int32.ofInt 4).toInt64 &&& 63)) ||| (Int64.ofInt (σ.1 6 0))) <<< ((Int32.ofInt 4).toInt64 &&& 63)) ||| (Int64.ofInt (σ.1 6 1))) <<< ((Int32.ofInt 4).toInt64 &&& 63)) ||| (Int64.ofInt (σ.1 6 2))) <<< ((Int32.ofInt 4).toInt64 &&& 63)) ||| (Int64.ofInt (σ.1 6 3))) <<< ((Int32.ofInt 4).toInt64 &&& 63)) ||| (Int64.ofInt (σ.1 6 4))) <<< ((Int32.ofInt 4).toInt64 &&& 63)) ||| (Int64.ofInt (σ.1 6 5))) <<< ((Int32.ofInt 4).toInt64 &&& 63)) ||| (Int64.ofInt (σ.1 6 6))) <<< ((Int32.ofInt 4).toInt64 &&& 63)) ||| (Int64.ofInt (σ.1 6 7))) <<< ((Int32.ofInt 4).toInt64 &&& 63)) ||| (Int64.ofInt (σ.1 6 8))) <<< ((Int32.ofInt 4).toInt64 &&& 63)) ||| (Int64.ofInt (σ.1 6 9))) <<< ((Int32.ofInt 4).toInt64 &&& 63)) ||| (Int64.ofInt (σ.1 6 10))) <<< ((Int32.ofInt 4).toInt64 &&& 63)) ||| (Int64.ofInt (σ.1 6 11)))), none, some (iv 11)]) dX8_packedGifts_21 rfl (by decide) rfl ?_
  refine e_iinc (pc' := 25) (L' := [some (rv 1), some (jv ((((((((((((((((((((((((0 <<< ((Int32.ofInt 4).toInt64 &&& 63)) ||| (Int64.ofInt (σ.1 6 0))) <<< ((Int32.ofInt 4).toInt64 &&& 63)) ||| (Int64.ofInt (σ.1 6 1))) <<< ((Int32.ofInt 4).toInt64 &&& 63)) ||| (Int64.ofInt (σ.1 6 2))) <<< ((Int32.ofInt 4).toInt64 &&& 63)) ||| (Int64.ofInt (σ.1 6 3))) <<< ((Int32.ofInt 4).toInt64 &&& 63)) ||| (Int64.ofInt (σ.1 6 4))) <<< ((Int32.ofInt 4).toInt64 &&& 63)) ||| (Int64.ofInt (σ.1 6 5))) <<< ((Int32.ofInt 4).toInt64 &&& 63)) ||| (Int64.ofInt (σ.1 6 6))) <<< ((Int32.ofInt 4).toInt64 &&& 63)) ||| (Int64.ofInt (σ.1 6 7))) <<< ((Int32.ofInt 4).toInt64 &&& 63)) ||| (Int64.ofInt (σ.1 6 8))) <<< ((Int32.ofInt 4).toInt64 &&& 63)) ||| (Int64.ofInt (σ.1 6 9))) <<< ((Int32.ofInt 4).toInt64 &&& 63)) ||| (Int64.ofInt (σ.1 6 10))) <<< ((Int32.ofInt 4).toInt64 &&& 63)) ||| (Int64.ofInt (σ.1 6 11)))), none, some (iv 12)]) dX8_packedGifts_22 rfl rfl (by decide) rfl ?_
  refine e_goto (pc' := 4) dX8_packedGifts_25 (by decide) ?_
  refine e_iload_n (pc' := 5) dX8_packedGifts_4 rfl rfl ?_
  refine e_bipush (pc' := 7) (z := 15) dX8_packedGifts_5 rfl (by decide) ?_
  refine e_icmpI (pc' := 10) (t := 28) dX8_packedGifts_7 (by decide) rfl ⟨by omega, by omega⟩ ⟨by omega, by omega⟩ (fun c2_13 => absurd (show 15 ≤ (12 : Int) from c2_13) (by decide)) (fun _ => ?_)
  refine e_lload_n (pc' := 11) dX8_packedGifts_10 rfl rfl ?_
  refine e_iconst (pc' := 12) dX8_packedGifts_11 rfl ?_
  refine e_lshl (pc' := 13) dX8_packedGifts_12 rfl ?_
  refine e_aload_n (pc' := 14) dX8_packedGifts_13 rfl rfl ?_
  refine e_getR (pc' := 17) dX8_packedGifts_14 rfl f_8_24 h_1 rfl ?_
  refine e_iload_n (pc' := 18) dX8_packedGifts_17 rfl rfl ?_
  refine e_iald (pc' := 19) (v := (σ.1 6 12)) dX8_packedGifts_18 rfl h_6 (by decide) (by omega) (by omega) rfl ?_
  refine e_i2l (pc' := 20) dX8_packedGifts_19 rfl (by first | exact hgr _ (by decide) (by decide) | exact ⟨by omega, by omega⟩) ?_
  refine e_lor (pc' := 21) dX8_packedGifts_20 rfl ?_
  refine e_lstore_n (pc' := 22) (L' := [some (rv 1), some (jv ((((((((((((((((((((((((((0 <<< ((Int32.ofInt 4).toInt64 &&& 63)) ||| (Int64.ofInt (σ.1 6 0))) <<< ((Int32.ofInt 4).toInt64 &&& 63)) ||| (Int64.ofInt (σ.1 6 1))) <<< ((Int32.ofInt 4).toInt64 &&& 63)) ||| (Int64.ofInt (σ.1 6 2))) <<< ((Int32.ofInt 4).toInt64 &&& 63)) ||| (Int64.ofInt (σ.1 6 3))) <<< ((Int32.ofInt 4).toInt64 &&& 63)) ||| (Int64.ofInt (σ.1 6 4))) <<< ((Int32.ofInt 4).toInt64 &&& 63)) ||| (Int64.ofInt (σ.1 6 5))) <<< ((Int32.ofInt 4).toInt64 &&& 63)) ||| (Int64.ofInt (σ.1 6 6))) <<< ((Int32.ofInt 4).toInt64 &&& 63)) ||| (Int64.ofInt (σ.1 6 7))) <<< ((Int32.ofInt 4).toInt64 &&& 63)) ||| (Int64.ofInt (σ.1 6 8))) <<< ((Int32.ofInt 4).toInt64 &&& 63)) ||| (Int64.ofInt (σ.1 6 9))) <<< ((Int32.ofInt 4).toInt64 &&& 63)) ||| (Int64.ofInt (σ.1 6 10))) <<< ((Int32.ofInt 4).toInt64 &&& 63)) ||| (Int64.ofInt (σ.1 6 11))) <<< ((Int32.ofInt 4).toInt64 &&& 63)) ||| (Int64.ofInt (σ.1 6 12)))), none, some (iv 12)]) dX8_packedGifts_21 rfl (by decide) rfl ?_
  refine e_iinc (pc' := 25) (L' := [some (rv 1), some (jv ((((((((((((((((((((((((((0 <<< ((Int32.ofInt 4).toInt64 &&& 63)) ||| (Int64.ofInt (σ.1 6 0))) <<< ((Int32.ofInt 4).toInt64 &&& 63)) ||| (Int64.ofInt (σ.1 6 1))) <<< ((Int32.ofInt 4).toInt64 &&& 63)) ||| (Int64.ofInt (σ.1 6 2))) <<< ((Int32.ofInt 4).toInt64 &&& 63)) ||| (Int64.ofInt (σ.1 6 3))) <<< ((Int32.ofInt 4).toInt64 &&& 63)) ||| (Int64.ofInt (σ.1 6 4))) <<< ((Int32.ofInt 4).toInt64 &&& 63)) ||| (Int64.ofInt (σ.1 6 5))) <<< ((Int32.ofInt 4).toInt64 &&& 63)) ||| (Int64.ofInt (σ.1 6 6))) <<< ((Int32.ofInt 4).toInt64 &&& 63)) ||| (Int64.ofInt (σ.1 6 7))) <<< ((Int32.ofInt 4).toInt64 &&& 63)) ||| (Int64.ofInt (σ.1 6 8))) <<< ((Int32.ofInt 4).toInt64 &&& 63)) ||| (Int64.ofInt (σ.1 6 9))) <<< ((Int32.ofInt 4).toInt64 &&& 63)) ||| (Int64.ofInt (σ.1 6 10))) <<< ((Int32.ofInt 4).toInt64 &&& 63)) ||| (Int64.ofInt (σ.1 6 11))) <<< ((Int32.ofInt 4).toInt64 &&& 63)) ||| (Int64.ofInt (σ.1 6 12)))), none, some (iv 13)]) dX8_packedGifts_22 rfl rfl (by decide) rfl ?_
  refine e_goto (pc' := 4) dX8_packedGifts_25 (by decide) ?_
  refine e_iload_n (pc' := 5) dX8_packedGifts_4 rfl rfl ?_
  refine e_bipush (pc' := 7) (z := 15) dX8_packedGifts_5 rfl (by decide) ?_
  refine e_icmpI (pc' := 10) (t := 28) dX8_packedGifts_7 (by decide) rfl ⟨by omega, by omega⟩ ⟨by omega, by omega⟩ (fun c2_14 => absurd (show 15 ≤ (13 : Int) from c2_14) (by decide)) (fun _ => ?_)
  refine e_lload_n (pc' := 11) dX8_packedGifts_10 rfl rfl ?_
  refine e_iconst (pc' := 12) dX8_packedGifts_11 rfl ?_
  refine e_lshl (pc' := 13) dX8_packedGifts_12 rfl ?_
  refine e_aload_n (pc' := 14) dX8_packedGifts_13 rfl rfl ?_
  refine e_getR (pc' := 17) dX8_packedGifts_14 rfl f_8_24 h_1 rfl ?_
  refine e_iload_n (pc' := 18) dX8_packedGifts_17 rfl rfl ?_
  refine e_iald (pc' := 19) (v := (σ.1 6 13)) dX8_packedGifts_18 rfl h_6 (by decide) (by omega) (by omega) rfl ?_
  refine e_i2l (pc' := 20) dX8_packedGifts_19 rfl (by first | exact hgr _ (by decide) (by decide) | exact ⟨by omega, by omega⟩) ?_
  refine e_lor (pc' := 21) dX8_packedGifts_20 rfl ?_
  refine e_lstore_n (pc' := 22) (L' := [some (rv 1), some (jv ((((((((((((((((((((((((((((0 <<< ((Int32.ofInt 4).toInt64 &&& 63)) ||| (Int64.ofInt (σ.1 6 0))) <<< ((Int32.ofInt 4).toInt64 &&& 63)) ||| (Int64.ofInt (σ.1 6 1))) <<< ((Int32.ofInt 4).toInt64 &&& 63)) ||| (Int64.ofInt (σ.1 6 2))) <<< ((Int32.ofInt 4).toInt64 &&& 63)) ||| (Int64.ofInt (σ.1 6 3))) <<< ((Int32.ofInt 4).toInt64 &&& 63)) ||| (Int64.ofInt (σ.1 6 4))) <<< ((Int32.ofInt 4).toInt64 &&& 63)) ||| (Int64.ofInt (σ.1 6 5))) <<< ((Int32.ofInt 4).toInt64 &&& 63)) ||| (Int64.ofInt (σ.1 6 6))) <<< ((Int32.ofInt 4).toInt64 &&& 63)) ||| (Int64.ofInt (σ.1 6 7))) <<< ((Int32.ofInt 4).toInt64 &&& 63)) ||| (Int64.ofInt (σ.1 6 8))) <<< ((Int32.ofInt 4).toInt64 &&& 63)) ||| (Int64.ofInt (σ.1 6 9))) <<< ((Int32.ofInt 4).toInt64 &&& 63)) ||| (Int64.ofInt (σ.1 6 10))) <<< ((Int32.ofInt 4).toInt64 &&& 63)) ||| (Int64.ofInt (σ.1 6 11))) <<< ((Int32.ofInt 4).toInt64 &&& 63)) ||| (Int64.ofInt (σ.1 6 12))) <<< ((Int32.ofInt 4).toInt64 &&& 63)) ||| (Int64.ofInt (σ.1 6 13)))), none, some (iv 13)]) dX8_packedGifts_21 rfl (by decide) rfl ?_
  refine e_iinc (pc' := 25) (L' := [some (rv 1), some (jv ((((((((((((((((((((((((((((0 <<< ((Int32.ofInt 4).toInt64 &&& 63)) ||| (Int64.ofInt (σ.1 6 0))) <<< ((Int32.ofInt 4).toInt64 &&& 63)) ||| (Int64.ofInt (σ.1 6 1))) <<< ((Int32.ofInt 4).toInt64 &&& 63)) ||| (Int64.ofInt (σ.1 6 2))) <<< ((Int32.ofInt 4).toInt64 &&& 63)) ||| (Int64.ofInt (σ.1 6 3))) <<< ((Int32.ofInt 4).toInt64 &&& 63)) ||| (Int64.ofInt (σ.1 6 4))) <<< ((Int32.ofInt 4).toInt64 &&& 63)) ||| (Int64.ofInt (σ.1 6 5))) <<< ((Int32.ofInt 4).toInt64 &&& 63)) ||| (Int64.ofInt (σ.1 6 6))) <<< ((Int32.ofInt 4).toInt64 &&& 63)) ||| (Int64.ofInt (σ.1 6 7))) <<< ((Int32.ofInt 4).toInt64 &&& 63)) ||| (Int64.ofInt (σ.1 6 8))) <<< ((Int32.ofInt 4).toInt64 &&& 63)) ||| (Int64.ofInt (σ.1 6 9))) <<< ((Int32.ofInt 4).toInt64 &&& 63)) ||| (Int64.ofInt (σ.1 6 10))) <<< ((Int32.ofInt 4).toInt64 &&& 63)) ||| (Int64.ofInt (σ.1 6 11))) <<< ((Int32.ofInt 4).toInt64 &&& 63)) ||| (Int64.ofInt (σ.1 6 12))) <<< ((Int32.ofInt 4).toInt64 &&& 63)) ||| (Int64.ofInt (σ.1 6 13)))), none, some (iv 14)]) dX8_packedGifts_22 rfl rfl (by decide) rfl ?_
  refine e_goto (pc' := 4) dX8_packedGifts_25 (by decide) ?_
  refine e_iload_n (pc' := 5) dX8_packedGifts_4 rfl rfl ?_
  refine e_bipush (pc' := 7) (z := 15) dX8_packedGifts_5 rfl (by decide) ?_
  refine e_icmpI (pc' := 10) (t := 28) dX8_packedGifts_7 (by decide) rfl ⟨by omega, by omega⟩ ⟨by omega, by omega⟩ (fun c2_15 => absurd (show 15 ≤ (14 : Int) from c2_15) (by decide)) (fun _ => ?_)
  refine e_lload_n (pc' := 11) dX8_packedGifts_10 rfl rfl ?_
  refine e_iconst (pc' := 12) dX8_packedGifts_11 rfl ?_
  refine e_lshl (pc' := 13) dX8_packedGifts_12 rfl ?_
  refine e_aload_n (pc' := 14) dX8_packedGifts_13 rfl rfl ?_
  refine e_getR (pc' := 17) dX8_packedGifts_14 rfl f_8_24 h_1 rfl ?_
  refine e_iload_n (pc' := 18) dX8_packedGifts_17 rfl rfl ?_
  refine e_iald (pc' := 19) (v := (σ.1 6 14)) dX8_packedGifts_18 rfl h_6 (by decide) (by omega) (by omega) rfl ?_
  refine e_i2l (pc' := 20) dX8_packedGifts_19 rfl (by first | exact hgr _ (by decide) (by decide) | exact ⟨by omega, by omega⟩) ?_
  refine e_lor (pc' := 21) dX8_packedGifts_20 rfl ?_
  refine e_lstore_n (pc' := 22) (L' := [some (rv 1), some (jv ((((((((((((((((((((((((((((((0 <<< ((Int32.ofInt 4).toInt64 &&& 63)) ||| (Int64.ofInt (σ.1 6 0))) <<< ((Int32.ofInt 4).toInt64 &&& 63)) ||| (Int64.ofInt (σ.1 6 1))) <<< ((Int32.ofInt 4).toInt64 &&& 63)) ||| (Int64.ofInt (σ.1 6 2))) <<< ((Int32.ofInt 4).toInt64 &&& 63)) ||| (Int64.ofInt (σ.1 6 3))) <<< ((Int32.ofInt 4).toInt64 &&& 63)) ||| (Int64.ofInt (σ.1 6 4))) <<< ((Int32.ofInt 4).toInt64 &&& 63)) ||| (Int64.ofInt (σ.1 6 5))) <<< ((Int32.ofInt 4).toInt64 &&& 63)) ||| (Int64.ofInt (σ.1 6 6))) <<< ((Int32.ofInt 4).toInt64 &&& 63)) ||| (Int64.ofInt (σ.1 6 7))) <<< ((Int32.ofInt 4).toInt64 &&& 63)) ||| (Int64.ofInt (σ.1 6 8))) <<< ((Int32.ofInt 4).toInt64 &&& 63)) ||| (Int64.ofInt (σ.1 6 9))) <<< ((Int32.ofInt 4).toInt64 &&& 63)) ||| (Int64.ofInt (σ.1 6 10))) <<< ((Int32.ofInt 4).toInt64 &&& 63)) ||| (Int64.ofInt (σ.1 6 11))) <<< ((Int32.ofInt 4).toInt64 &&& 63)) ||| (Int64.ofInt (σ.1 6 12))) <<< ((Int32.ofInt 4).toInt64 &&& 63)) ||| (Int64.ofInt (σ.1 6 13))) <<< ((Int32.ofInt 4).toInt64 &&& 63)) ||| (Int64.ofInt (σ.1 6 14)))), none, some (iv 14)]) dX8_packedGifts_21 rfl (by decide) rfl ?_
  refine e_iinc (pc' := 25) (L' := [some (rv 1), some (jv ((((((((((((((((((((((((((((((0 <<< ((Int32.ofInt 4).toInt64 &&& 63)) ||| (Int64.ofInt (σ.1 6 0))) <<< ((Int32.ofInt 4).toInt64 &&& 63)) ||| (Int64.ofInt (σ.1 6 1))) <<< ((Int32.ofInt 4).toInt64 &&& 63)) ||| (Int64.ofInt (σ.1 6 2))) <<< ((Int32.ofInt 4).toInt64 &&& 63)) ||| (Int64.ofInt (σ.1 6 3))) <<< ((Int32.ofInt 4).toInt64 &&& 63)) ||| (Int64.ofInt (σ.1 6 4))) <<< ((Int32.ofInt 4).toInt64 &&& 63)) ||| (Int64.ofInt (σ.1 6 5))) <<< ((Int32.ofInt 4).toInt64 &&& 63)) ||| (Int64.ofInt (σ.1 6 6))) <<< ((Int32.ofInt 4).toInt64 &&& 63)) ||| (Int64.ofInt (σ.1 6 7))) <<< ((Int32.ofInt 4).toInt64 &&& 63)) ||| (Int64.ofInt (σ.1 6 8))) <<< ((Int32.ofInt 4).toInt64 &&& 63)) ||| (Int64.ofInt (σ.1 6 9))) <<< ((Int32.ofInt 4).toInt64 &&& 63)) ||| (Int64.ofInt (σ.1 6 10))) <<< ((Int32.ofInt 4).toInt64 &&& 63)) ||| (Int64.ofInt (σ.1 6 11))) <<< ((Int32.ofInt 4).toInt64 &&& 63)) ||| (Int64.ofInt (σ.1 6 12))) <<< ((Int32.ofInt 4).toInt64 &&& 63)) ||| (Int64.ofInt (σ.1 6 13))) <<< ((Int32.ofInt 4).toInt64 &&& 63)) ||| (Int64.ofInt (σ.1 6 14)))), none, some (iv 15)]) dX8_packedGifts_22 rfl rfl (by decide) rfl ?_
  refine e_goto (pc' := 4) dX8_packedGifts_25 (by decide) ?_
  refine e_iload_n (pc' := 5) dX8_packedGifts_4 rfl rfl ?_
  refine e_bipush (pc' := 7) (z := 15) dX8_packedGifts_5 rfl (by decide) ?_
  refine e_icmpI (pc' := 10) (t := 28) dX8_packedGifts_7 (by decide) rfl ⟨by omega, by omega⟩ ⟨by omega, by omega⟩ (fun _ => ?_) (fun c2_16 => absurd (show 15 ≤ (15 : Int) by decide) c2_16)
  refine e_lload_n (pc' := 29) dX8_packedGifts_28 rfl rfl ?_
  exact e_lret dX8_packedGifts_29 rfl ⟨rfl, Nat.le_refl _⟩ ⟨_, rfl, rfl, rfl⟩

set_option maxHeartbeats 4000000 in
set_option maxRecDepth 100000 in
theorem s_packed_17 {X : AX} {d : Nat} {σ : SG} (ho : ScOK σ 17) : Ev X 0 0 d mX8_packedGifts 0 [some (rv 17), none, none, none] [] σ (QJ (fun r σ' => σ' = σ ∧ r = pkS (σ.1 22) 15)) := by
  have hgr : ∀ j : Int, 0 ≤ j → j < 15 → rg (σ.1 22 j) := fun j a c => by have h : 0 ≤ σ.1 22 j ∧ σ.1 22 j ≤ 12 := ho.2.2.2.2.2.2.1 j a c; exact ⟨by omega, by omega⟩
  refine e_lconst (pc' := 1) (z := 0) dX8_packedGifts_0 rfl rfl ?_
  refine e_lstore_n (pc' := 2) (L' := [some (rv 17), some (jv 0), none, none]) dX8_packedGifts_1 rfl (by decide) rfl ?_
  refine e_iconst (pc' := 3) dX8_packedGifts_2 rfl ?_
  refine e_istore_n (pc' := 4) (L' := [some (rv 17), some (jv 0), none, some (iv 0)]) dX8_packedGifts_3 rfl (by decide) rfl ?_
  refine e_iload_n (pc' := 5) dX8_packedGifts_4 rfl rfl ?_
  refine e_bipush (pc' := 7) (z := 15) dX8_packedGifts_5 rfl (by decide) ?_
  refine e_icmpI (pc' := 10) (t := 28) dX8_packedGifts_7 (by decide) rfl ⟨by omega, by omega⟩ ⟨by omega, by omega⟩ (fun c2_1 => absurd (show 15 ≤ (0 : Int) from c2_1) (by decide)) (fun _ => ?_)
  refine e_lload_n (pc' := 11) dX8_packedGifts_10 rfl rfl ?_
  refine e_iconst (pc' := 12) dX8_packedGifts_11 rfl ?_
  refine e_lshl (pc' := 13) dX8_packedGifts_12 rfl ?_
  refine e_aload_n (pc' := 14) dX8_packedGifts_13 rfl rfl ?_
  refine e_getR (pc' := 17) dX8_packedGifts_14 rfl f_8_24 h_17 rfl ?_
  refine e_iload_n (pc' := 18) dX8_packedGifts_17 rfl rfl ?_
  refine e_iald (pc' := 19) (v := (σ.1 22 0)) dX8_packedGifts_18 rfl h_22 (by decide) (by omega) (by omega) rfl ?_
  refine e_i2l (pc' := 20) dX8_packedGifts_19 rfl (by first | exact hgr _ (by decide) (by decide) | exact ⟨by omega, by omega⟩) ?_
  refine e_lor (pc' := 21) dX8_packedGifts_20 rfl ?_
  refine e_lstore_n (pc' := 22) (L' := [some (rv 17), some (jv ((0 <<< ((Int32.ofInt 4).toInt64 &&& 63)) ||| (Int64.ofInt (σ.1 22 0)))), none, some (iv 0)]) dX8_packedGifts_21 rfl (by decide) rfl ?_
  refine e_iinc (pc' := 25) (L' := [some (rv 17), some (jv ((0 <<< ((Int32.ofInt 4).toInt64 &&& 63)) ||| (Int64.ofInt (σ.1 22 0)))), none, some (iv 1)]) dX8_packedGifts_22 rfl rfl (by decide) rfl ?_
  refine e_goto (pc' := 4) dX8_packedGifts_25 (by decide) ?_
  refine e_iload_n (pc' := 5) dX8_packedGifts_4 rfl rfl ?_
  refine e_bipush (pc' := 7) (z := 15) dX8_packedGifts_5 rfl (by decide) ?_
  refine e_icmpI (pc' := 10) (t := 28) dX8_packedGifts_7 (by decide) rfl ⟨by omega, by omega⟩ ⟨by omega, by omega⟩ (fun c2_2 => absurd (show 15 ≤ (1 : Int) from c2_2) (by decide)) (fun _ => ?_)
  refine e_lload_n (pc' := 11) dX8_packedGifts_10 rfl rfl ?_
  refine e_iconst (pc' := 12) dX8_packedGifts_11 rfl ?_
  refine e_lshl (pc' := 13) dX8_packedGifts_12 rfl ?_
  refine e_aload_n (pc' := 14) dX8_packedGifts_13 rfl rfl ?_
  refine e_getR (pc' := 17) dX8_packedGifts_14 rfl f_8_24 h_17 rfl ?_
  refine e_iload_n (pc' := 18) dX8_packedGifts_17 rfl rfl ?_
  refine e_iald (pc' := 19) (v := (σ.1 22 1)) dX8_packedGifts_18 rfl h_22 (by decide) (by omega) (by omega) rfl ?_
  refine e_i2l (pc' := 20) dX8_packedGifts_19 rfl (by first | exact hgr _ (by decide) (by decide) | exact ⟨by omega, by omega⟩) ?_
  refine e_lor (pc' := 21) dX8_packedGifts_20 rfl ?_
  refine e_lstore_n (pc' := 22) (L' := [some (rv 17), some (jv ((((0 <<< ((Int32.ofInt 4).toInt64 &&& 63)) ||| (Int64.ofInt (σ.1 22 0))) <<< ((Int32.ofInt 4).toInt64 &&& 63)) ||| (Int64.ofInt (σ.1 22 1)))), none, some (iv 1)]) dX8_packedGifts_21 rfl (by decide) rfl ?_
  refine e_iinc (pc' := 25) (L' := [some (rv 17), some (jv ((((0 <<< ((Int32.ofInt 4).toInt64 &&& 63)) ||| (Int64.ofInt (σ.1 22 0))) <<< ((Int32.ofInt 4).toInt64 &&& 63)) ||| (Int64.ofInt (σ.1 22 1)))), none, some (iv 2)]) dX8_packedGifts_22 rfl rfl (by decide) rfl ?_
  refine e_goto (pc' := 4) dX8_packedGifts_25 (by decide) ?_
  refine e_iload_n (pc' := 5) dX8_packedGifts_4 rfl rfl ?_
  refine e_bipush (pc' := 7) (z := 15) dX8_packedGifts_5 rfl (by decide) ?_
  refine e_icmpI (pc' := 10) (t := 28) dX8_packedGifts_7 (by decide) rfl ⟨by omega, by omega⟩ ⟨by omega, by omega⟩ (fun c2_3 => absurd (show 15 ≤ (2 : Int) from c2_3) (by decide)) (fun _ => ?_)
  refine e_lload_n (pc' := 11) dX8_packedGifts_10 rfl rfl ?_
  refine e_iconst (pc' := 12) dX8_packedGifts_11 rfl ?_
  refine e_lshl (pc' := 13) dX8_packedGifts_12 rfl ?_
  refine e_aload_n (pc' := 14) dX8_packedGifts_13 rfl rfl ?_
  refine e_getR (pc' := 17) dX8_packedGifts_14 rfl f_8_24 h_17 rfl ?_
  refine e_iload_n (pc' := 18) dX8_packedGifts_17 rfl rfl ?_
  refine e_iald (pc' := 19) (v := (σ.1 22 2)) dX8_packedGifts_18 rfl h_22 (by decide) (by omega) (by omega) rfl ?_
  refine e_i2l (pc' := 20) dX8_packedGifts_19 rfl (by first | exact hgr _ (by decide) (by decide) | exact ⟨by omega, by omega⟩) ?_
  refine e_lor (pc' := 21) dX8_packedGifts_20 rfl ?_
  refine e_lstore_n (pc' := 22) (L' := [some (rv 17), some (jv ((((((0 <<< ((Int32.ofInt 4).toInt64 &&& 63)) ||| (Int64.ofInt (σ.1 22 0))) <<< ((Int32.ofInt 4).toInt64 &&& 63)) ||| (Int64.ofInt (σ.1 22 1))) <<< ((Int32.ofInt 4).toInt64 &&& 63)) ||| (Int64.ofInt (σ.1 22 2)))), none, some (iv 2)]) dX8_packedGifts_21 rfl (by decide) rfl ?_
  refine e_iinc (pc' := 25) (L' := [some (rv 17), some (jv ((((((0 <<< ((Int32.ofInt 4).toInt64 &&& 63)) ||| (Int64.ofInt (σ.1 22 0))) <<< ((Int32.ofInt 4).toInt64 &&& 63)) ||| (Int64.ofInt (σ.1 22 1))) <<< ((Int32.ofInt 4).toInt64 &&& 63)) ||| (Int64.ofInt (σ.1 22 2)))), none, some (iv 3)]) dX8_packedGifts_22 rfl rfl (by decide) rfl ?_
  refine e_goto (pc' := 4) dX8_packedGifts_25 (by decide) ?_
  refine e_iload_n (pc' := 5) dX8_packedGifts_4 rfl rfl ?_
  refine e_bipush (pc' := 7) (z := 15) dX8_packedGifts_5 rfl (by decide) ?_
  refine e_icmpI (pc' := 10) (t := 28) dX8_packedGifts_7 (by decide) rfl ⟨by omega, by omega⟩ ⟨by omega, by omega⟩ (fun c2_4 => absurd (show 15 ≤ (3 : Int) from c2_4) (by decide)) (fun _ => ?_)
  refine e_lload_n (pc' := 11) dX8_packedGifts_10 rfl rfl ?_
  refine e_iconst (pc' := 12) dX8_packedGifts_11 rfl ?_
  refine e_lshl (pc' := 13) dX8_packedGifts_12 rfl ?_
  refine e_aload_n (pc' := 14) dX8_packedGifts_13 rfl rfl ?_
  refine e_getR (pc' := 17) dX8_packedGifts_14 rfl f_8_24 h_17 rfl ?_
  refine e_iload_n (pc' := 18) dX8_packedGifts_17 rfl rfl ?_
  refine e_iald (pc' := 19) (v := (σ.1 22 3)) dX8_packedGifts_18 rfl h_22 (by decide) (by omega) (by omega) rfl ?_
  refine e_i2l (pc' := 20) dX8_packedGifts_19 rfl (by first | exact hgr _ (by decide) (by decide) | exact ⟨by omega, by omega⟩) ?_
  refine e_lor (pc' := 21) dX8_packedGifts_20 rfl ?_
  refine e_lstore_n (pc' := 22) (L' := [some (rv 17), some (jv ((((((((0 <<< ((Int32.ofInt 4).toInt64 &&& 63)) ||| (Int64.ofInt (σ.1 22 0))) <<< ((Int32.ofInt 4).toInt64 &&& 63)) ||| (Int64.ofInt (σ.1 22 1))) <<< ((Int32.ofInt 4).toInt64 &&& 63)) ||| (Int64.ofInt (σ.1 22 2))) <<< ((Int32.ofInt 4).toInt64 &&& 63)) ||| (Int64.ofInt (σ.1 22 3)))), none, some (iv 3)]) dX8_packedGifts_21 rfl (by decide) rfl ?_
  refine e_iinc (pc' := 25) (L' := [some (rv 17), some (jv ((((((((0 <<< ((Int32.ofInt 4).toInt64 &&& 63)) ||| (Int64.ofInt (σ.1 22 0))) <<< ((Int32.ofInt 4).toInt64 &&& 63)) ||| (Int64.ofInt (σ.1 22 1))) <<< ((Int32.ofInt 4).toInt64 &&& 63)) ||| (Int64.ofInt (σ.1 22 2))) <<< ((Int32.ofInt 4).toInt64 &&& 63)) ||| (Int64.ofInt (σ.1 22 3)))), none, some (iv 4)]) dX8_packedGifts_22 rfl rfl (by decide) rfl ?_
  refine e_goto (pc' := 4) dX8_packedGifts_25 (by decide) ?_
  refine e_iload_n (pc' := 5) dX8_packedGifts_4 rfl rfl ?_
  refine e_bipush (pc' := 7) (z := 15) dX8_packedGifts_5 rfl (by decide) ?_
  refine e_icmpI (pc' := 10) (t := 28) dX8_packedGifts_7 (by decide) rfl ⟨by omega, by omega⟩ ⟨by omega, by omega⟩ (fun c2_5 => absurd (show 15 ≤ (4 : Int) from c2_5) (by decide)) (fun _ => ?_)
  refine e_lload_n (pc' := 11) dX8_packedGifts_10 rfl rfl ?_
  refine e_iconst (pc' := 12) dX8_packedGifts_11 rfl ?_
  refine e_lshl (pc' := 13) dX8_packedGifts_12 rfl ?_
  refine e_aload_n (pc' := 14) dX8_packedGifts_13 rfl rfl ?_
  refine e_getR (pc' := 17) dX8_packedGifts_14 rfl f_8_24 h_17 rfl ?_
  refine e_iload_n (pc' := 18) dX8_packedGifts_17 rfl rfl ?_
  refine e_iald (pc' := 19) (v := (σ.1 22 4)) dX8_packedGifts_18 rfl h_22 (by decide) (by omega) (by omega) rfl ?_
  refine e_i2l (pc' := 20) dX8_packedGifts_19 rfl (by first | exact hgr _ (by decide) (by decide) | exact ⟨by omega, by omega⟩) ?_
  refine e_lor (pc' := 21) dX8_packedGifts_20 rfl ?_
  refine e_lstore_n (pc' := 22) (L' := [some (rv 17), some (jv ((((((((((0 <<< ((Int32.ofInt 4).toInt64 &&& 63)) ||| (Int64.ofInt (σ.1 22 0))) <<< ((Int32.ofInt 4).toInt64 &&& 63)) ||| (Int64.ofInt (σ.1 22 1))) <<< ((Int32.ofInt 4).toInt64 &&& 63)) ||| (Int64.ofInt (σ.1 22 2))) <<< ((Int32.ofInt 4).toInt64 &&& 63)) ||| (Int64.ofInt (σ.1 22 3))) <<< ((Int32.ofInt 4).toInt64 &&& 63)) ||| (Int64.ofInt (σ.1 22 4)))), none, some (iv 4)]) dX8_packedGifts_21 rfl (by decide) rfl ?_
  refine e_iinc (pc' := 25) (L' := [some (rv 17), some (jv ((((((((((0 <<< ((Int32.ofInt 4).toInt64 &&& 63)) ||| (Int64.ofInt (σ.1 22 0))) <<< ((Int32.ofInt 4).toInt64 &&& 63)) ||| (Int64.ofInt (σ.1 22 1))) <<< ((Int32.ofInt 4).toInt64 &&& 63)) ||| (Int64.ofInt (σ.1 22 2))) <<< ((Int32.ofInt 4).toInt64 &&& 63)) ||| (Int64.ofInt (σ.1 22 3))) <<< ((Int32.ofInt 4).toInt64 &&& 63)) ||| (Int64.ofInt (σ.1 22 4)))), none, some (iv 5)]) dX8_packedGifts_22 rfl rfl (by decide) rfl ?_
  refine e_goto (pc' := 4) dX8_packedGifts_25 (by decide) ?_
  refine e_iload_n (pc' := 5) dX8_packedGifts_4 rfl rfl ?_
  refine e_bipush (pc' := 7) (z := 15) dX8_packedGifts_5 rfl (by decide) ?_
  refine e_icmpI (pc' := 10) (t := 28) dX8_packedGifts_7 (by decide) rfl ⟨by omega, by omega⟩ ⟨by omega, by omega⟩ (fun c2_6 => absurd (show 15 ≤ (5 : Int) from c2_6) (by decide)) (fun _ => ?_)
  refine e_lload_n (pc' := 11) dX8_packedGifts_10 rfl rfl ?_
  refine e_iconst (pc' := 12) dX8_packedGifts_11 rfl ?_
  refine e_lshl (pc' := 13) dX8_packedGifts_12 rfl ?_
  refine e_aload_n (pc' := 14) dX8_packedGifts_13 rfl rfl ?_
  refine e_getR (pc' := 17) dX8_packedGifts_14 rfl f_8_24 h_17 rfl ?_
  refine e_iload_n (pc' := 18) dX8_packedGifts_17 rfl rfl ?_
  refine e_iald (pc' := 19) (v := (σ.1 22 5)) dX8_packedGifts_18 rfl h_22 (by decide) (by omega) (by omega) rfl ?_
  refine e_i2l (pc' := 20) dX8_packedGifts_19 rfl (by first | exact hgr _ (by decide) (by decide) | exact ⟨by omega, by omega⟩) ?_
  refine e_lor (pc' := 21) dX8_packedGifts_20 rfl ?_
  refine e_lstore_n (pc' := 22) (L' := [some (rv 17), some (jv ((((((((((((0 <<< ((Int32.ofInt 4).toInt64 &&& 63)) ||| (Int64.ofInt (σ.1 22 0))) <<< ((Int32.ofInt 4).toInt64 &&& 63)) ||| (Int64.ofInt (σ.1 22 1))) <<< ((Int32.ofInt 4).toInt64 &&& 63)) ||| (Int64.ofInt (σ.1 22 2))) <<< ((Int32.ofInt 4).toInt64 &&& 63)) ||| (Int64.ofInt (σ.1 22 3))) <<< ((Int32.ofInt 4).toInt64 &&& 63)) ||| (Int64.ofInt (σ.1 22 4))) <<< ((Int32.ofInt 4).toInt64 &&& 63)) ||| (Int64.ofInt (σ.1 22 5)))), none, some (iv 5)]) dX8_packedGifts_21 rfl (by decide) rfl ?_
  refine e_iinc (pc' := 25) (L' := [some (rv 17), some (jv ((((((((((((0 <<< ((Int32.ofInt 4).toInt64 &&& 63)) ||| (Int64.ofInt (σ.1 22 0))) <<< ((Int32.ofInt 4).toInt64 &&& 63)) ||| (Int64.ofInt (σ.1 22 1))) <<< ((Int32.ofInt 4).toInt64 &&& 63)) ||| (Int64.ofInt (σ.1 22 2))) <<< ((Int32.ofInt 4).toInt64 &&& 63)) ||| (Int64.ofInt (σ.1 22 3))) <<< ((Int32.ofInt 4).toInt64 &&& 63)) ||| (Int64.ofInt (σ.1 22 4))) <<< ((Int32.ofInt 4).toInt64 &&& 63)) ||| (Int64.ofInt (σ.1 22 5)))), none, some (iv 6)]) dX8_packedGifts_22 rfl rfl (by decide) rfl ?_
  refine e_goto (pc' := 4) dX8_packedGifts_25 (by decide) ?_
  refine e_iload_n (pc' := 5) dX8_packedGifts_4 rfl rfl ?_
  refine e_bipush (pc' := 7) (z := 15) dX8_packedGifts_5 rfl (by decide) ?_
  refine e_icmpI (pc' := 10) (t := 28) dX8_packedGifts_7 (by decide) rfl ⟨by omega, by omega⟩ ⟨by omega, by omega⟩ (fun c2_7 => absurd (show 15 ≤ (6 : Int) from c2_7) (by decide)) (fun _ => ?_)
  refine e_lload_n (pc' := 11) dX8_packedGifts_10 rfl rfl ?_
  refine e_iconst (pc' := 12) dX8_packedGifts_11 rfl ?_
  refine e_lshl (pc' := 13) dX8_packedGifts_12 rfl ?_
  refine e_aload_n (pc' := 14) dX8_packedGifts_13 rfl rfl ?_
  refine e_getR (pc' := 17) dX8_packedGifts_14 rfl f_8_24 h_17 rfl ?_
  refine e_iload_n (pc' := 18) dX8_packedGifts_17 rfl rfl ?_
  refine e_iald (pc' := 19) (v := (σ.1 22 6)) dX8_packedGifts_18 rfl h_22 (by decide) (by omega) (by omega) rfl ?_
  refine e_i2l (pc' := 20) dX8_packedGifts_19 rfl (by first | exact hgr _ (by decide) (by decide) | exact ⟨by omega, by omega⟩) ?_
  refine e_lor (pc' := 21) dX8_packedGifts_20 rfl ?_
  refine e_lstore_n (pc' := 22) (L' := [some (rv 17), some (jv ((((((((((((((0 <<< ((Int32.ofInt 4).toInt64 &&& 63)) ||| (Int64.ofInt (σ.1 22 0))) <<< ((Int32.ofInt 4).toInt64 &&& 63)) ||| (Int64.ofInt (σ.1 22 1))) <<< ((Int32.ofInt 4).toInt64 &&& 63)) ||| (Int64.ofInt (σ.1 22 2))) <<< ((Int32.ofInt 4).toInt64 &&& 63)) ||| (Int64.ofInt (σ.1 22 3))) <<< ((Int32.ofInt 4).toInt64 &&& 63)) ||| (Int64.ofInt (σ.1 22 4))) <<< ((Int32.ofInt 4).toInt64 &&& 63)) ||| (Int64.ofInt (σ.1 22 5))) <<< ((Int32.ofInt 4).toInt64 &&& 63)) ||| (Int64.ofInt (σ.1 22 6)))), none, some (iv 6)]) dX8_packedGifts_21 rfl (by decide) rfl ?_
  refine e_iinc (pc' := 25) (L' := [some (rv 17), some (jv ((((((((((((((0 <<< ((Int32.ofInt 4).toInt64 &&& 63)) ||| (Int64.ofInt (σ.1 22 0))) <<< ((Int32.ofInt 4).toInt64 &&& 63)) ||| (Int64.ofInt (σ.1 22 1))) <<< ((Int32.ofInt 4).toInt64 &&& 63)) ||| (Int64.ofInt (σ.1 22 2))) <<< ((Int32.ofInt 4).toInt64 &&& 63)) ||| (Int64.ofInt (σ.1 22 3))) <<< ((Int32.ofInt 4).toInt64 &&& 63)) ||| (Int64.ofInt (σ.1 22 4))) <<< ((Int32.ofInt 4).toInt64 &&& 63)) ||| (Int64.ofInt (σ.1 22 5))) <<< ((Int32.ofInt 4).toInt64 &&& 63)) ||| (Int64.ofInt (σ.1 22 6)))), none, some (iv 7)]) dX8_packedGifts_22 rfl rfl (by decide) rfl ?_
  refine e_goto (pc' := 4) dX8_packedGifts_25 (by decide) ?_
  refine e_iload_n (pc' := 5) dX8_packedGifts_4 rfl rfl ?_
  refine e_bipush (pc' := 7) (z := 15) dX8_packedGifts_5 rfl (by decide) ?_
  refine e_icmpI (pc' := 10) (t := 28) dX8_packedGifts_7 (by decide) rfl ⟨by omega, by omega⟩ ⟨by omega, by omega⟩ (fun c2_8 => absurd (show 15 ≤ (7 : Int) from c2_8) (by decide)) (fun _ => ?_)
  refine e_lload_n (pc' := 11) dX8_packedGifts_10 rfl rfl ?_
  refine e_iconst (pc' := 12) dX8_packedGifts_11 rfl ?_
  refine e_lshl (pc' := 13) dX8_packedGifts_12 rfl ?_
  refine e_aload_n (pc' := 14) dX8_packedGifts_13 rfl rfl ?_
  refine e_getR (pc' := 17) dX8_packedGifts_14 rfl f_8_24 h_17 rfl ?_
  refine e_iload_n (pc' := 18) dX8_packedGifts_17 rfl rfl ?_
  refine e_iald (pc' := 19) (v := (σ.1 22 7)) dX8_packedGifts_18 rfl h_22 (by decide) (by omega) (by omega) rfl ?_
  refine e_i2l (pc' := 20) dX8_packedGifts_19 rfl (by first | exact hgr _ (by decide) (by decide) | exact ⟨by omega, by omega⟩) ?_
  refine e_lor (pc' := 21) dX8_packedGifts_20 rfl ?_
  refine e_lstore_n (pc' := 22) (L' := [some (rv 17), some (jv ((((((((((((((((0 <<< ((Int32.ofInt 4).toInt64 &&& 63)) ||| (Int64.ofInt (σ.1 22 0))) <<< ((Int32.ofInt 4).toInt64 &&& 63)) ||| (Int64.ofInt (σ.1 22 1))) <<< ((Int32.ofInt 4).toInt64 &&& 63)) ||| (Int64.ofInt (σ.1 22 2))) <<< ((Int32.ofInt 4).toInt64 &&& 63)) ||| (Int64.ofInt (σ.1 22 3))) <<< ((Int32.ofInt 4).toInt64 &&& 63)) ||| (Int64.ofInt (σ.1 22 4))) <<< ((Int32.ofInt 4).toInt64 &&& 63)) ||| (Int64.ofInt (σ.1 22 5))) <<< ((Int32.ofInt 4).toInt64 &&& 63)) ||| (Int64.ofInt (σ.1 22 6))) <<< ((Int32.ofInt 4).toInt64 &&& 63)) ||| (Int64.ofInt (σ.1 22 7)))), none, some (iv 7)]) dX8_packedGifts_21 rfl (by decide) rfl ?_
  refine e_iinc (pc' := 25) (L' := [some (rv 17), some (jv ((((((((((((((((0 <<< ((Int32.ofInt 4).toInt64 &&& 63)) ||| (Int64.ofInt (σ.1 22 0))) <<< ((Int32.ofInt 4).toInt64 &&& 63)) ||| (Int64.ofInt (σ.1 22 1))) <<< ((Int32.ofInt 4).toInt64 &&& 63)) ||| (Int64.ofInt (σ.1 22 2))) <<< ((Int32.ofInt 4).toInt64 &&& 63)) ||| (Int64.ofInt (σ.1 22 3))) <<< ((Int32.ofInt 4).toInt64 &&& 63)) ||| (Int64.ofInt (σ.1 22 4))) <<< ((Int32.ofInt 4).toInt64 &&& 63)) ||| (Int64.ofInt (σ.1 22 5))) <<< ((Int32.ofInt 4).toInt64 &&& 63)) ||| (Int64.ofInt (σ.1 22 6))) <<< ((Int32.ofInt 4).toInt64 &&& 63)) ||| (Int64.ofInt (σ.1 22 7)))), none, some (iv 8)]) dX8_packedGifts_22 rfl rfl (by decide) rfl ?_
  refine e_goto (pc' := 4) dX8_packedGifts_25 (by decide) ?_
  refine e_iload_n (pc' := 5) dX8_packedGifts_4 rfl rfl ?_
  refine e_bipush (pc' := 7) (z := 15) dX8_packedGifts_5 rfl (by decide) ?_
  refine e_icmpI (pc' := 10) (t := 28) dX8_packedGifts_7 (by decide) rfl ⟨by omega, by omega⟩ ⟨by omega, by omega⟩ (fun c2_9 => absurd (show 15 ≤ (8 : Int) from c2_9) (by decide)) (fun _ => ?_)
  refine e_lload_n (pc' := 11) dX8_packedGifts_10 rfl rfl ?_
  refine e_iconst (pc' := 12) dX8_packedGifts_11 rfl ?_
  refine e_lshl (pc' := 13) dX8_packedGifts_12 rfl ?_
  refine e_aload_n (pc' := 14) dX8_packedGifts_13 rfl rfl ?_
  refine e_getR (pc' := 17) dX8_packedGifts_14 rfl f_8_24 h_17 rfl ?_
  refine e_iload_n (pc' := 18) dX8_packedGifts_17 rfl rfl ?_
  refine e_iald (pc' := 19) (v := (σ.1 22 8)) dX8_packedGifts_18 rfl h_22 (by decide) (by omega) (by omega) rfl ?_
  refine e_i2l (pc' := 20) dX8_packedGifts_19 rfl (by first | exact hgr _ (by decide) (by decide) | exact ⟨by omega, by omega⟩) ?_
  refine e_lor (pc' := 21) dX8_packedGifts_20 rfl ?_
  refine e_lstore_n (pc' := 22) (L' := [some (rv 17), some (jv ((((((((((((((((((0 <<< ((Int32.ofInt 4).toInt64 &&& 63)) ||| (Int64.ofInt (σ.1 22 0))) <<< ((Int32.ofInt 4).toInt64 &&& 63)) ||| (Int64.ofInt (σ.1 22 1))) <<< ((Int32.ofInt 4).toInt64 &&& 63)) ||| (Int64.ofInt (σ.1 22 2))) <<< ((Int32.ofInt 4).toInt64 &&& 63)) ||| (Int64.ofInt (σ.1 22 3))) <<< ((Int32.ofInt 4).toInt64 &&& 63)) ||| (Int64.ofInt (σ.1 22 4))) <<< ((Int32.ofInt 4).toInt64 &&& 63)) ||| (Int64.ofInt (σ.1 22 5))) <<< ((Int32.ofInt 4).toInt64 &&& 63)) ||| (Int64.ofInt (σ.1 22 6))) <<< ((Int32.ofInt 4).toInt64 &&& 63)) ||| (Int64.ofInt (σ.1 22 7))) <<< ((Int32.ofInt 4).toInt64 &&& 63)) ||| (Int64.ofInt (σ.1 22 8)))), none, some (iv 8)]) dX8_packedGifts_21 rfl (by decide) rfl ?_
  refine e_iinc (pc' := 25) (L' := [some (rv 17), some (jv ((((((((((((((((((0 <<< ((Int32.ofInt 4).toInt64 &&& 63)) ||| (Int64.ofInt (σ.1 22 0))) <<< ((Int32.ofInt 4).toInt64 &&& 63)) ||| (Int64.ofInt (σ.1 22 1))) <<< ((Int32.ofInt 4).toInt64 &&& 63)) ||| (Int64.ofInt (σ.1 22 2))) <<< ((Int32.ofInt 4).toInt64 &&& 63)) ||| (Int64.ofInt (σ.1 22 3))) <<< ((Int32.ofInt 4).toInt64 &&& 63)) ||| (Int64.ofInt (σ.1 22 4))) <<< ((Int32.ofInt 4).toInt64 &&& 63)) ||| (Int64.ofInt (σ.1 22 5))) <<< ((Int32.ofInt 4).toInt64 &&& 63)) ||| (Int64.ofInt (σ.1 22 6))) <<< ((Int32.ofInt 4).toInt64 &&& 63)) ||| (Int64.ofInt (σ.1 22 7))) <<< ((Int32.ofInt 4).toInt64 &&& 63)) ||| (Int64.ofInt (σ.1 22 8)))), none, some (iv 9)]) dX8_packedGifts_22 rfl rfl (by decide) rfl ?_
  refine e_goto (pc' := 4) dX8_packedGifts_25 (by decide) ?_
  refine e_iload_n (pc' := 5) dX8_packedGifts_4 rfl rfl ?_
  refine e_bipush (pc' := 7) (z := 15) dX8_packedGifts_5 rfl (by decide) ?_
  refine e_icmpI (pc' := 10) (t := 28) dX8_packedGifts_7 (by decide) rfl ⟨by omega, by omega⟩ ⟨by omega, by omega⟩ (fun c2_10 => absurd (show 15 ≤ (9 : Int) from c2_10) (by decide)) (fun _ => ?_)
  refine e_lload_n (pc' := 11) dX8_packedGifts_10 rfl rfl ?_
  refine e_iconst (pc' := 12) dX8_packedGifts_11 rfl ?_
  refine e_lshl (pc' := 13) dX8_packedGifts_12 rfl ?_
  refine e_aload_n (pc' := 14) dX8_packedGifts_13 rfl rfl ?_
  refine e_getR (pc' := 17) dX8_packedGifts_14 rfl f_8_24 h_17 rfl ?_
  refine e_iload_n (pc' := 18) dX8_packedGifts_17 rfl rfl ?_
  refine e_iald (pc' := 19) (v := (σ.1 22 9)) dX8_packedGifts_18 rfl h_22 (by decide) (by omega) (by omega) rfl ?_
  refine e_i2l (pc' := 20) dX8_packedGifts_19 rfl (by first | exact hgr _ (by decide) (by decide) | exact ⟨by omega, by omega⟩) ?_
  refine e_lor (pc' := 21) dX8_packedGifts_20 rfl ?_
  refine e_lstore_n (pc' := 22) (L' := [some (rv 17), some (jv ((((((((((((((((((((0 <<< ((Int32.ofInt 4).toInt64 &&& 63)) ||| (Int64.ofInt (σ.1 22 0))) <<< ((Int32.ofInt 4).toInt64 &&& 63)) ||| (Int64.ofInt (σ.1 22 1))) <<< ((Int32.ofInt 4).toInt64 &&& 63)) ||| (Int64.ofInt (σ.1 22 2))) <<< ((Int32.ofInt 4).toInt64 &&& 63)) ||| (Int64.ofInt (σ.1 22 3))) <<< ((Int32.ofInt 4).toInt64 &&& 63)) ||| (Int64.ofInt (σ.1 22 4))) <<< ((Int32.ofInt 4).toInt64 &&& 63)) ||| (Int64.ofInt (σ.1 22 5))) <<< ((Int32.ofInt 4).toInt64 &&& 63)) ||| (Int64.ofInt (σ.1 22 6))) <<< ((Int32.ofInt 4).toInt64 &&& 63)) ||| (Int64.ofInt (σ.1 22 7))) <<< ((Int32.ofInt 4).toInt64 &&& 63)) ||| (Int64.ofInt (σ.1 22 8))) <<< ((Int32.ofInt 4).toInt64 &&& 63)) ||| (Int64.ofInt (σ.1 22 9)))), none, some (iv 9)]) dX8_packedGifts_21 rfl (by decide) rfl ?_
  refine e_iinc (pc' := 25) (L' := [some (rv 17), some (jv ((((((((((((((((((((0 <<< ((Int32.ofInt 4).toInt64 &&& 63)) ||| (Int64.ofInt (σ.1 22 0))) <<< ((Int32.ofInt 4).toInt64 &&& 63)) ||| (Int64.ofInt (σ.1 22 1))) <<< ((Int32.ofInt 4).toInt64 &&& 63)) ||| (Int64.ofInt (σ.1 22 2))) <<< ((Int32.ofInt 4).toInt64 &&& 63)) ||| (Int64.ofInt (σ.1 22 3))) <<< ((Int32.ofInt 4).toInt64 &&& 63)) ||| (Int64.ofInt (σ.1 22 4))) <<< ((Int32.ofInt 4).toInt64 &&& 63)) ||| (Int64.ofInt (σ.1 22 5))) <<< ((Int32.ofInt 4).toInt64 &&& 63)) ||| (Int64.ofInt (σ.1 22 6))) <<< ((Int32.ofInt 4).toInt64 &&& 63)) ||| (Int64.ofInt (σ.1 22 7))) <<< ((Int32.ofInt 4).toInt64 &&& 63)) ||| (Int64.ofInt (σ.1 22 8))) <<< ((Int32.ofInt 4).toInt64 &&& 63)) ||| (Int64.ofInt (σ.1 22 9)))), none, some (iv 10)]) dX8_packedGifts_22 rfl rfl (by decide) rfl ?_
  refine e_goto (pc' := 4) dX8_packedGifts_25 (by decide) ?_
  refine e_iload_n (pc' := 5) dX8_packedGifts_4 rfl rfl ?_
  refine e_bipush (pc' := 7) (z := 15) dX8_packedGifts_5 rfl (by decide) ?_
  refine e_icmpI (pc' := 10) (t := 28) dX8_packedGifts_7 (by decide) rfl ⟨by omega, by omega⟩ ⟨by omega, by omega⟩ (fun c2_11 => absurd (show 15 ≤ (10 : Int) from c2_11) (by decide)) (fun _ => ?_)
  refine e_lload_n (pc' := 11) dX8_packedGifts_10 rfl rfl ?_
  refine e_iconst (pc' := 12) dX8_packedGifts_11 rfl ?_
  refine e_lshl (pc' := 13) dX8_packedGifts_12 rfl ?_
  refine e_aload_n (pc' := 14) dX8_packedGifts_13 rfl rfl ?_
  refine e_getR (pc' := 17) dX8_packedGifts_14 rfl f_8_24 h_17 rfl ?_
  refine e_iload_n (pc' := 18) dX8_packedGifts_17 rfl rfl ?_
  refine e_iald (pc' := 19) (v := (σ.1 22 10)) dX8_packedGifts_18 rfl h_22 (by decide) (by omega) (by omega) rfl ?_
  refine e_i2l (pc' := 20) dX8_packedGifts_19 rfl (by first | exact hgr _ (by decide) (by decide) | exact ⟨by omega, by omega⟩) ?_
  refine e_lor (pc' := 21) dX8_packedGifts_20 rfl ?_
  refine e_lstore_n (pc' := 22) (L' := [some (rv 17), some (jv ((((((((((((((((((((((0 <<< ((Int32.ofInt 4).toInt64 &&& 63)) ||| (Int64.ofInt (σ.1 22 0))) <<< ((Int32.ofInt 4).toInt64 &&& 63)) ||| (Int64.ofInt (σ.1 22 1))) <<< ((Int32.ofInt 4).toInt64 &&& 63)) ||| (Int64.ofInt (σ.1 22 2))) <<< ((Int32.ofInt 4).toInt64 &&& 63)) ||| (Int64.ofInt (σ.1 22 3))) <<< ((Int32.ofInt 4).toInt64 &&& 63)) ||| (Int64.ofInt (σ.1 22 4))) <<< ((Int32.ofInt 4).toInt64 &&& 63)) ||| (Int64.ofInt (σ.1 22 5))) <<< ((Int32.ofInt 4).toInt64 &&& 63)) ||| (Int64.ofInt (σ.1 22 6))) <<< ((Int32.ofInt 4).toInt64 &&& 63)) ||| (Int64.ofInt (σ.1 22 7))) <<< ((Int32.ofInt 4).toInt64 &&& 63)) ||| (Int64.ofInt (σ.1 22 8))) <<< ((Int32.ofInt 4).toInt64 &&& 63)) ||| (Int64.ofInt (σ.1 22 9))) <<< ((Int32.ofInt 4).toInt64 &&& 63)) ||| (Int64.ofInt (σ.1 22 10)))), none, some (iv 10)]) dX8_packedGifts_21 rfl (by decide) rfl ?_
  refine e_iinc (pc' := 25) (L' := [some (rv 17), some (jv ((((((((((((((((((((((0 <<< ((Int32.ofInt 4).toInt64 &&& 63)) ||| (Int64.ofInt (σ.1 22 0))) <<< ((Int32.ofInt 4).toInt64 &&& 63)) ||| (Int64.ofInt (σ.1 22 1))) <<< ((Int32.ofInt 4).toInt64 &&& 63)) ||| (Int64.ofInt (σ.1 22 2))) <<< ((Int32.ofInt 4).toInt64 &&& 63)) ||| (Int64.ofInt (σ.1 22 3))) <<< ((Int32.ofInt 4).toInt64 &&& 63)) ||| (Int64.ofInt (σ.1 22 4))) <<< ((Int32.ofInt 4).toInt64 &&& 63)) ||| (Int64.ofInt (σ.1 22 5))) <<< ((Int32.ofInt 4).toInt64 &&& 63)) ||| (Int64.ofInt (σ.1 22 6))) <<< ((Int32.ofInt 4).toInt64 &&& 63)) ||| (Int64.ofInt (σ.1 22 7))) <<< ((Int32.ofInt 4).toInt64 &&& 63)) ||| (Int64.ofInt (σ.1 22 8))) <<< ((Int32.ofInt 4).toInt64 &&& 63)) ||| (Int64.ofInt (σ.1 22 9))) <<< ((Int32.ofInt 4).toInt64 &&& 63)) ||| (Int64.ofInt (σ.1 22 10)))), none, some (iv 11)]) dX8_packedGifts_22 rfl rfl (by decide) rfl ?_
  refine e_goto (pc' := 4) dX8_packedGifts_25 (by decide) ?_
  refine e_iload_n (pc' := 5) dX8_packedGifts_4 rfl rfl ?_
  refine e_bipush (pc' := 7) (z := 15) dX8_packedGifts_5 rfl (by decide) ?_
  refine e_icmpI (pc' := 10) (t := 28) dX8_packedGifts_7 (by decide) rfl ⟨by omega, by omega⟩ ⟨by omega, by omega⟩ (fun c2_12 => absurd (show 15 ≤ (11 : Int) from c2_12) (by decide)) (fun _ => ?_)
  refine e_lload_n (pc' := 11) dX8_packedGifts_10 rfl rfl ?_
  refine e_iconst (pc' := 12) dX8_packedGifts_11 rfl ?_
  refine e_lshl (pc' := 13) dX8_packedGifts_12 rfl ?_
  refine e_aload_n (pc' := 14) dX8_packedGifts_13 rfl rfl ?_
  refine e_getR (pc' := 17) dX8_packedGifts_14 rfl f_8_24 h_17 rfl ?_
  refine e_iload_n (pc' := 18) dX8_packedGifts_17 rfl rfl ?_
  refine e_iald (pc' := 19) (v := (σ.1 22 11)) dX8_packedGifts_18 rfl h_22 (by decide) (by omega) (by omega) rfl ?_
  refine e_i2l (pc' := 20) dX8_packedGifts_19 rfl (by first | exact hgr _ (by decide) (by decide) | exact ⟨by omega, by omega⟩) ?_
  refine e_lor (pc' := 21) dX8_packedGifts_20 rfl ?_
  refine e_lstore_n (pc' := 22) (L' := [some (rv 17), some (jv ((((((((((((((((((((((((0 <<< ((Int32.ofInt 4).toInt64 &&& 63)) ||| (Int64.ofInt (σ.1 22 0))) <<< ((Int32.ofInt 4).toInt64 &&& 63)) ||| (Int64.ofInt (σ.1 22 1))) <<< ((Int32.ofInt 4).toInt64 &&& 63)) ||| (Int64.ofInt (σ.1 22 2))) <<< ((Int32.ofInt 4).toInt64 &&& 63)) ||| (Int64.ofInt (σ.1 22 3))) <<< ((Int32.ofInt 4).toInt64 &&& 63)) ||| (Int64.ofInt (σ.1 22 4))) <<< ((Int32.ofInt 4).toInt64 &&& 63)) ||| (Int64.ofInt (σ.1 22 5))) <<< ((Int32.ofInt 4).toInt64 &&& 63)) ||| (Int64.ofInt (σ.1 22 6))) <<< ((Int32.ofInt 4).toInt64 &&& 63)) ||| (Int64.ofInt (σ.1 22 7))) <<< ((Int32.ofInt 4).toInt64 &&& 63)) ||| (Int64.ofInt (σ.1 22 8))) <<< ((Int32.ofInt 4).toInt64 &&& 63)) ||| (Int64.ofInt (σ.1 22 9))) <<< ((Int32.ofInt 4).toInt64 &&& 63)) ||| (Int64.ofInt (σ.1 22 10))) <<< ((Int32.ofInt 4).toInt64 &&& 63)) ||| (Int64.ofInt (σ.1 22 11)))), none, some (iv 11)]) dX8_packedGifts_21 rfl (by decide) rfl ?_
  refine e_iinc (pc' := 25) (L' := [some (rv 17), some (jv ((((((((((((((((((((((((0 <<< ((Int32.ofInt 4).toInt64 &&& 63)) ||| (Int64.ofInt (σ.1 22 0))) <<< ((Int32.ofInt 4).toInt64 &&& 63)) ||| (Int64.ofInt (σ.1 22 1))) <<< ((Int32.ofInt 4).toInt64 &&& 63)) ||| (Int64.ofInt (σ.1 22 2))) <<< ((Int32.ofInt 4).toInt64 &&& 63)) ||| (Int64.ofInt (σ.1 22 3))) <<< ((Int32.ofInt 4).toInt64 &&& 63)) ||| (Int64.ofInt (σ.1 22 4))) <<< ((Int32.ofInt 4).toInt64 &&& 63)) ||| (Int64.ofInt (σ.1 22 5))) <<< ((Int32.ofInt 4).toInt64 &&& 63)) ||| (Int64.ofInt (σ.1 22 6))) <<< ((Int32.ofInt 4).toInt64 &&& 63)) ||| (Int64.ofInt (σ.1 22 7))) <<< ((Int32.ofInt 4).toInt64 &&& 63)) ||| (Int64.ofInt (σ.1 22 8))) <<< ((Int32.ofInt 4).toInt64 &&& 63)) ||| (Int64.ofInt (σ.1 22 9))) <<< ((Int32.ofInt 4).toInt64 &&& 63)) ||| (Int64.ofInt (σ.1 22 10))) <<< ((Int32.ofInt 4).toInt64 &&& 63)) ||| (Int64.ofInt (σ.1 22 11)))), none, some (iv 12)]) dX8_packedGifts_22 rfl rfl (by decide) rfl ?_
  refine e_goto (pc' := 4) dX8_packedGifts_25 (by decide) ?_
  refine e_iload_n (pc' := 5) dX8_packedGifts_4 rfl rfl ?_
  refine e_bipush (pc' := 7) (z := 15) dX8_packedGifts_5 rfl (by decide) ?_
  refine e_icmpI (pc' := 10) (t := 28) dX8_packedGifts_7 (by decide) rfl ⟨by omega, by omega⟩ ⟨by omega, by omega⟩ (fun c2_13 => absurd (show 15 ≤ (12 : Int) from c2_13) (by decide)) (fun _ => ?_)
  refine e_lload_n (pc' := 11) dX8_packedGifts_10 rfl rfl ?_
  refine e_iconst (pc' := 12) dX8_packedGifts_11 rfl ?_
  refine e_lshl (pc' := 13) dX8_packedGifts_12 rfl ?_
  refine e_aload_n (pc' := 14) dX8_packedGifts_13 rfl rfl ?_
  refine e_getR (pc' := 17) dX8_packedGifts_14 rfl f_8_24 h_17 rfl ?_
  refine e_iload_n (pc' := 18) dX8_packedGifts_17 rfl rfl ?_
  refine e_iald (pc' := 19) (v := (σ.1 22 12)) dX8_packedGifts_18 rfl h_22 (by decide) (by omega) (by omega) rfl ?_
  refine e_i2l (pc' := 20) dX8_packedGifts_19 rfl (by first | exact hgr _ (by decide) (by decide) | exact ⟨by omega, by omega⟩) ?_
  refine e_lor (pc' := 21) dX8_packedGifts_20 rfl ?_
  refine e_lstore_n (pc' := 22) (L' := [some (rv 17), some (jv ((((((((((((((((((((((((((0 <<< ((Int32.ofInt 4).toInt64 &&& 63)) ||| (Int64.ofInt (σ.1 22 0))) <<< ((Int32.ofInt 4).toInt64 &&& 63)) ||| (Int64.ofInt (σ.1 22 1))) <<< ((Int32.ofInt 4).toInt64 &&& 63)) ||| (Int64.ofInt (σ.1 22 2))) <<< ((Int32.ofInt 4).toInt64 &&& 63)) ||| (Int64.ofInt (σ.1 22 3))) <<< ((Int32.ofInt 4).toInt64 &&& 63)) ||| (Int64.ofInt (σ.1 22 4))) <<< ((Int32.ofInt 4).toInt64 &&& 63)) ||| (Int64.ofInt (σ.1 22 5))) <<< ((Int32.ofInt 4).toInt64 &&& 63)) ||| (Int64.ofInt (σ.1 22 6))) <<< ((Int32.ofInt 4).toInt64 &&& 63)) ||| (Int64.ofInt (σ.1 22 7))) <<< ((Int32.ofInt 4).toInt64 &&& 63)) ||| (Int64.ofInt (σ.1 22 8))) <<< ((Int32.ofInt 4).toInt64 &&& 63)) ||| (Int64.ofInt (σ.1 22 9))) <<< ((Int32.ofInt 4).toInt64 &&& 63)) ||| (Int64.ofInt (σ.1 22 10))) <<< ((Int32.ofInt 4).toInt64 &&& 63)) ||| (Int64.ofInt (σ.1 22 11))) <<< ((Int32.ofInt 4).toInt64 &&& 63)) ||| (Int64.ofInt (σ.1 22 12)))), none, some (iv 12)]) dX8_packedGifts_21 rfl (by decide) rfl ?_
  refine e_iinc (pc' := 25) (L' := [some (rv 17), some (jv ((((((((((((((((((((((((((0 <<< ((Int32.ofInt 4).toInt64 &&& 63)) ||| (Int64.ofInt (σ.1 22 0))) <<< ((Int32.ofInt 4).toInt64 &&& 63)) ||| (Int64.ofInt (σ.1 22 1))) <<< ((Int32.ofInt 4).toInt64 &&& 63)) ||| (Int64.ofInt (σ.1 22 2))) <<< ((Int32.ofInt 4).toInt64 &&& 63)) ||| (Int64.ofInt (σ.1 22 3))) <<< ((Int32.ofInt 4).toInt64 &&& 63)) ||| (Int64.ofInt (σ.1 22 4))) <<< ((Int32.ofInt 4).toInt64 &&& 63)) ||| (Int64.ofInt (σ.1 22 5))) <<< ((Int32.ofInt 4).toInt64 &&& 63)) ||| (Int64.ofInt (σ.1 22 6))) <<< ((Int32.ofInt 4).toInt64 &&& 63)) ||| (Int64.ofInt (σ.1 22 7))) <<< ((Int32.ofInt 4).toInt64 &&& 63)) ||| (Int64.ofInt (σ.1 22 8))) <<< ((Int32.ofInt 4).toInt64 &&& 63)) ||| (Int64.ofInt (σ.1 22 9))) <<< ((Int32.ofInt 4).toInt64 &&& 63)) ||| (Int64.ofInt (σ.1 22 10))) <<< ((Int32.ofInt 4).toInt64 &&& 63)) ||| (Int64.ofInt (σ.1 22 11))) <<< ((Int32.ofInt 4).toInt64 &&& 63)) ||| (Int64.ofInt (σ.1 22 12)))), none, some (iv 13)]) dX8_packedGifts_22 rfl rfl (by decide) rfl ?_
  refine e_goto (pc' := 4) dX8_packedGifts_25 (by decide) ?_
  refine e_iload_n (pc' := 5) dX8_packedGifts_4 rfl rfl ?_
  refine e_bipush (pc' := 7) (z := 15) dX8_packedGifts_5 rfl (by decide) ?_
  refine e_icmpI (pc' := 10) (t := 28) dX8_packedGifts_7 (by decide) rfl ⟨by omega, by omega⟩ ⟨by omega, by omega⟩ (fun c2_14 => absurd (show 15 ≤ (13 : Int) from c2_14) (by decide)) (fun _ => ?_)
  refine e_lload_n (pc' := 11) dX8_packedGifts_10 rfl rfl ?_
  refine e_iconst (pc' := 12) dX8_packedGifts_11 rfl ?_
  refine e_lshl (pc' := 13) dX8_packedGifts_12 rfl ?_
  refine e_aload_n (pc' := 14) dX8_packedGifts_13 rfl rfl ?_
  refine e_getR (pc' := 17) dX8_packedGifts_14 rfl f_8_24 h_17 rfl ?_
  refine e_iload_n (pc' := 18) dX8_packedGifts_17 rfl rfl ?_
  refine e_iald (pc' := 19) (v := (σ.1 22 13)) dX8_packedGifts_18 rfl h_22 (by decide) (by omega) (by omega) rfl ?_
  refine e_i2l (pc' := 20) dX8_packedGifts_19 rfl (by first | exact hgr _ (by decide) (by decide) | exact ⟨by omega, by omega⟩) ?_
  refine e_lor (pc' := 21) dX8_packedGifts_20 rfl ?_
  refine e_lstore_n (pc' := 22) (L' := [some (rv 17), some (jv ((((((((((((((((((((((((((((0 <<< ((Int32.ofInt 4).toInt64 &&& 63)) ||| (Int64.ofInt (σ.1 22 0))) <<< ((Int32.ofInt 4).toInt64 &&& 63)) ||| (Int64.ofInt (σ.1 22 1))) <<< ((Int32.ofInt 4).toInt64 &&& 63)) ||| (Int64.ofInt (σ.1 22 2))) <<< ((Int32.ofInt 4).toInt64 &&& 63)) ||| (Int64.ofInt (σ.1 22 3))) <<< ((Int32.ofInt 4).toInt64 &&& 63)) ||| (Int64.ofInt (σ.1 22 4))) <<< ((Int32.ofInt 4).toInt64 &&& 63)) ||| (Int64.ofInt (σ.1 22 5))) <<< ((Int32.ofInt 4).toInt64 &&& 63)) ||| (Int64.ofInt (σ.1 22 6))) <<< ((Int32.ofInt 4).toInt64 &&& 63)) ||| (Int64.ofInt (σ.1 22 7))) <<< ((Int32.ofInt 4).toInt64 &&& 63)) ||| (Int64.ofInt (σ.1 22 8))) <<< ((Int32.ofInt 4).toInt64 &&& 63)) ||| (Int64.ofInt (σ.1 22 9))) <<< ((Int32.ofInt 4).toInt64 &&& 63)) ||| (Int64.ofInt (σ.1 22 10))) <<< ((Int32.ofInt 4).toInt64 &&& 63)) ||| (Int64.ofInt (σ.1 22 11))) <<< ((Int32.ofInt 4).toInt64 &&& 63)) ||| (Int64.ofInt (σ.1 22 12))) <<< ((Int32.ofInt 4).toInt64 &&& 63)) ||| (Int64.ofInt (σ.1 22 13)))), none, some (iv 13)]) dX8_packedGifts_21 rfl (by decide) rfl ?_
  refine e_iinc (pc' := 25) (L' := [some (rv 17), some (jv ((((((((((((((((((((((((((((0 <<< ((Int32.ofInt 4).toInt64 &&& 63)) ||| (Int64.ofInt (σ.1 22 0))) <<< ((Int32.ofInt 4).toInt64 &&& 63)) ||| (Int64.ofInt (σ.1 22 1))) <<< ((Int32.ofInt 4).toInt64 &&& 63)) ||| (Int64.ofInt (σ.1 22 2))) <<< ((Int32.ofInt 4).toInt64 &&& 63)) ||| (Int64.ofInt (σ.1 22 3))) <<< ((Int32.ofInt 4).toInt64 &&& 63)) ||| (Int64.ofInt (σ.1 22 4))) <<< ((Int32.ofInt 4).toInt64 &&& 63)) ||| (Int64.ofInt (σ.1 22 5))) <<< ((Int32.ofInt 4).toInt64 &&& 63)) ||| (Int64.ofInt (σ.1 22 6))) <<< ((Int32.ofInt 4).toInt64 &&& 63)) ||| (Int64.ofInt (σ.1 22 7))) <<< ((Int32.ofInt 4).toInt64 &&& 63)) ||| (Int64.ofInt (σ.1 22 8))) <<< ((Int32.ofInt 4).toInt64 &&& 63)) ||| (Int64.ofInt (σ.1 22 9))) <<< ((Int32.ofInt 4).toInt64 &&& 63)) ||| (Int64.ofInt (σ.1 22 10))) <<< ((Int32.ofInt 4).toInt64 &&& 63)) ||| (Int64.ofInt (σ.1 22 11))) <<< ((Int32.ofInt 4).toInt64 &&& 63)) ||| (Int64.ofInt (σ.1 22 12))) <<< ((Int32.ofInt 4).toInt64 &&& 63)) ||| (Int64.ofInt (σ.1 22 13)))), none, some (iv 14)]) dX8_packedGifts_22 rfl rfl (by decide) rfl ?_
  refine e_goto (pc' := 4) dX8_packedGifts_25 (by decide) ?_
  refine e_iload_n (pc' := 5) dX8_packedGifts_4 rfl rfl ?_
  refine e_bipush (pc' := 7) (z := 15) dX8_packedGifts_5 rfl (by decide) ?_
  refine e_icmpI (pc' := 10) (t := 28) dX8_packedGifts_7 (by decide) rfl ⟨by omega, by omega⟩ ⟨by omega, by omega⟩ (fun c2_15 => absurd (show 15 ≤ (14 : Int) from c2_15) (by decide)) (fun _ => ?_)
  refine e_lload_n (pc' := 11) dX8_packedGifts_10 rfl rfl ?_
  refine e_iconst (pc' := 12) dX8_packedGifts_11 rfl ?_
  refine e_lshl (pc' := 13) dX8_packedGifts_12 rfl ?_
  refine e_aload_n (pc' := 14) dX8_packedGifts_13 rfl rfl ?_
  refine e_getR (pc' := 17) dX8_packedGifts_14 rfl f_8_24 h_17 rfl ?_
  refine e_iload_n (pc' := 18) dX8_packedGifts_17 rfl rfl ?_
  refine e_iald (pc' := 19) (v := (σ.1 22 14)) dX8_packedGifts_18 rfl h_22 (by decide) (by omega) (by omega) rfl ?_
  refine e_i2l (pc' := 20) dX8_packedGifts_19 rfl (by first | exact hgr _ (by decide) (by decide) | exact ⟨by omega, by omega⟩) ?_
  refine e_lor (pc' := 21) dX8_packedGifts_20 rfl ?_
  refine e_lstore_n (pc' := 22) (L' := [some (rv 17), some (jv ((((((((((((((((((((((((((((((0 <<< ((Int32.ofInt 4).toInt64 &&& 63)) ||| (Int64.ofInt (σ.1 22 0))) <<< ((Int32.ofInt 4).toInt64 &&& 63)) ||| (Int64.ofInt (σ.1 22 1))) <<< ((Int32.ofInt 4).toInt64 &&& 63)) ||| (Int64.ofInt (σ.1 22 2))) <<< ((Int32.ofInt 4).toInt64 &&& 63)) ||| (Int64.ofInt (σ.1 22 3))) <<< ((Int32.ofInt 4).toInt64 &&& 63)) ||| (Int64.ofInt (σ.1 22 4))) <<< ((Int32.ofInt 4).toInt64 &&& 63)) ||| (Int64.ofInt (σ.1 22 5))) <<< ((Int32.ofInt 4).toInt64 &&& 63)) ||| (Int64.ofInt (σ.1 22 6))) <<< ((Int32.ofInt 4).toInt64 &&& 63)) ||| (Int64.ofInt (σ.1 22 7))) <<< ((Int32.ofInt 4).toInt64 &&& 63)) ||| (Int64.ofInt (σ.1 22 8))) <<< ((Int32.ofInt 4).toInt64 &&& 63)) ||| (Int64.ofInt (σ.1 22 9))) <<< ((Int32.ofInt 4).toInt64 &&& 63)) ||| (Int64.ofInt (σ.1 22 10))) <<< ((Int32.ofInt 4).toInt64 &&& 63)) ||| (Int64.ofInt (σ.1 22 11))) <<< ((Int32.ofInt 4).toInt64 &&& 63)) ||| (Int64.ofInt (σ.1 22 12))) <<< ((Int32.ofInt 4).toInt64 &&& 63)) ||| (Int64.ofInt (σ.1 22 13))) <<< ((Int32.ofInt 4).toInt64 &&& 63)) ||| (Int64.ofInt (σ.1 22 14)))), none, some (iv 14)]) dX8_packedGifts_21 rfl (by decide) rfl ?_
  refine e_iinc (pc' := 25) (L' := [some (rv 17), some (jv ((((((((((((((((((((((((((((((0 <<< ((Int32.ofInt 4).toInt64 &&& 63)) ||| (Int64.ofInt (σ.1 22 0))) <<< ((Int32.ofInt 4).toInt64 &&& 63)) ||| (Int64.ofInt (σ.1 22 1))) <<< ((Int32.ofInt 4).toInt64 &&& 63)) ||| (Int64.ofInt (σ.1 22 2))) <<< ((Int32.ofInt 4).toInt64 &&& 63)) ||| (Int64.ofInt (σ.1 22 3))) <<< ((Int32.ofInt 4).toInt64 &&& 63)) ||| (Int64.ofInt (σ.1 22 4))) <<< ((Int32.ofInt 4).toInt64 &&& 63)) ||| (Int64.ofInt (σ.1 22 5))) <<< ((Int32.ofInt 4).toInt64 &&& 63)) ||| (Int64.ofInt (σ.1 22 6))) <<< ((Int32.ofInt 4).toInt64 &&& 63)) ||| (Int64.ofInt (σ.1 22 7))) <<< ((Int32.ofInt 4).toInt64 &&& 63)) ||| (Int64.ofInt (σ.1 22 8))) <<< ((Int32.ofInt 4).toInt64 &&& 63)) ||| (Int64.ofInt (σ.1 22 9))) <<< ((Int32.ofInt 4).toInt64 &&& 63)) ||| (Int64.ofInt (σ.1 22 10))) <<< ((Int32.ofInt 4).toInt64 &&& 63)) ||| (Int64.ofInt (σ.1 22 11))) <<< ((Int32.ofInt 4).toInt64 &&& 63)) ||| (Int64.ofInt (σ.1 22 12))) <<< ((Int32.ofInt 4).toInt64 &&& 63)) ||| (Int64.ofInt (σ.1 22 13))) <<< ((Int32.ofInt 4).toInt64 &&& 63)) ||| (Int64.ofInt (σ.1 22 14)))), none, some (iv 15)]) dX8_packedGifts_22 rfl rfl (by decide) rfl ?_
  refine e_goto (pc' := 4) dX8_packedGifts_25 (by decide) ?_
  refine e_iload_n (pc' := 5) dX8_packedGifts_4 rfl rfl ?_
  refine e_bipush (pc' := 7) (z := 15) dX8_packedGifts_5 rfl (by decide) ?_
  refine e_icmpI (pc' := 10) (t := 28) dX8_packedGifts_7 (by decide) rfl ⟨by omega, by omega⟩ ⟨by omega, by omega⟩ (fun _ => ?_) (fun c2_16 => absurd (show 15 ≤ (15 : Int) by decide) c2_16)
  refine e_lload_n (pc' := 29) dX8_packedGifts_28 rfl rfl ?_
  exact e_lret dX8_packedGifts_29 rfl ⟨rfl, Nat.le_refl _⟩ ⟨_, rfl, rfl, rfl⟩

set_option maxHeartbeats 4000000 in
set_option maxRecDepth 100000 in
theorem l_wasBefore {X : AX} {d : Nat} {σ : SG} (r : Int) (hr : 1 ≤ r ∧ r ≤ 40) : ∀ (k : Nat) (i : Int), 0 ≤ i → i ≤ r → r - i < k → wbI (σ.2 48) (σ.2 48 r) i = false → Ev X 0 0 d mX6_wasBefore 2 [some (rv 47), some (iv r), some (iv i)] [] σ (QI (fun z σ' => σ' = σ ∧ z = b2i (wbI (σ.2 48) (σ.2 48 r) r))) := by
  intro k
  induction k with
  | zero => intros; omega
  | succ k ih =>
  intro i hi0 hi1 hik hI
  refine e_iload_n (pc' := 3) dX6_wasBefore_2 rfl rfl ?_
  refine e_iload_n (pc' := 4) dX6_wasBefore_3 rfl rfl ?_
  refine e_icmpI (pc' := 7) (t := 31) dX6_wasBefore_4 (by decide) rfl ⟨by omega, by omega⟩ ⟨by omega, by omega⟩ (fun (c2_1 : r ≤ (i : Int)) => ?_) (fun (c2_1 : ¬ (r ≤ (i : Int))) => ?_)
  · refine e_iconst (pc' := 32) dX6_wasBefore_31 rfl ?_
    exact e_zret dX6_wasBefore_32 rfl (by decide) ⟨rfl, Nat.le_refl _⟩ ⟨_, rfl, rfl, by rw [show r = i by omega, show wbI (σ.2 48) (σ.2 48 i) i = false from (show r = i by omega) ▸ hI]; rfl⟩
  · refine e_aload_n (pc' := 8) dX6_wasBefore_7 rfl rfl ?_
    refine e_getR (pc' := 11) dX6_wasBefore_8 rfl f_6_9 h_47 rfl ?_
    refine e_iload_n (pc' := 12) dX6_wasBefore_11 rfl rfl ?_
    refine e_lald (pc' := 13) (v := (σ.2 48 i)) dX6_wasBefore_12 rfl h_48 (by decide) (by omega) (by omega) rfl ?_
    refine e_aload_n (pc' := 14) dX6_wasBefore_13 rfl rfl ?_
    refine e_getR (pc' := 17) dX6_wasBefore_14 rfl f_6_9 h_47 rfl ?_
    refine e_iload_n (pc' := 18) dX6_wasBefore_17 rfl rfl ?_
    refine e_lald (pc' := 19) (v := (σ.2 48 r)) dX6_wasBefore_18 rfl h_48 (by decide) (by omega) (by omega) rfl ?_
    refine e_lcmp (pc' := 20) dX6_wasBefore_19 rfl ?_
    refine e_ifJ (pc' := 23) (t := 25) dX6_wasBefore_20 (by decide) rfl (fun (c4_2 : ((σ.2 48 i) : Int64) ≠ (σ.2 48 r)) => ?_) (fun (c4_2 : ¬ (((σ.2 48 i) : Int64) ≠ (σ.2 48 r))) => ?_)
    · refine e_iinc (pc' := 28) (L' := [some (rv 47), some (iv r), some (iv (i + 1))]) dX6_wasBefore_25 rfl rfl (by decide) rfl ?_
      refine e_goto (pc' := 2) dX6_wasBefore_28 (by decide) ?_
      exact ih _ (by omega) (by omega) (by omega) (by rw [wbI_s _ _ (by omega), hI, decide_eq_false (by assumption)]; rfl)
    · refine e_iconst (pc' := 24) dX6_wasBefore_23 rfl ?_
      exact e_zret dX6_wasBefore_24 rfl (by decide) ⟨rfl, Nat.le_refl _⟩ ⟨_, rfl, rfl, by rw [show wbI (σ.2 48) (σ.2 48 r) r = true from wbB_t (n := (i + 1).toNat) (show wbI (σ.2 48) (σ.2 48 r) (i + 1) = true by rw [wbI_s _ _ (by omega), decide_eq_true (show σ.2 48 i = σ.2 48 r from Classical.byContradiction (fun q => (by assumption : ¬ _ ≠ _) q)), Bool.or_true]) (by omega)]; rfl⟩

set_option maxHeartbeats 4000000 in
set_option maxRecDepth 100000 in
theorem s_wasBefore {X : AX} {d : Nat} {σ : SG} (r : Int) (hr : 1 ≤ r ∧ r ≤ 40) : Ev X 0 0 d mX6_wasBefore 0 [some (rv 47), some (iv r), none] [] σ (QI (fun z σ' => σ' = σ ∧ z = b2i (wbI (σ.2 48) (σ.2 48 r) r))) := by
  refine e_iconst (pc' := 1) dX6_wasBefore_0 rfl ?_
  refine e_istore_n (pc' := 2) (L' := [some (rv 47), some (iv r), some (iv 0)]) dX6_wasBefore_1 rfl (by decide) rfl ?_
  exact l_wasBefore r hr (r + 1).toNat 0 (by omega) (by omega) (by omega) rfl
