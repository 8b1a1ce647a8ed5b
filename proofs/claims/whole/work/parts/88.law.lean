/-! the law's walk -/
theorem i32_rg (x : Int32) : rg x.toInt := ⟨by have := Int32.le_toInt x; omega, by have := Int32.toInt_lt x; omega⟩
theorem tst_rf (x : Int) : tst .eq x x = true := decide_eq_true rfl
theorem ru0 {r : Nat} (e0 : σ0.1 r = rl0) (e1 : σ0.1 (r + 1) = fun _ => 0) : RuI σ0 r := by
  unfold RuI
  rw [e0, e1]
  exact ⟨0, by decide, rfl, fun j _ _ => ⟨Int.le_refl 0, by show (0 : Int) ≤ 127; decide⟩, rfl, rfl, trivial⟩
theorem n0 (j : Int) (h1 : ¬ j = 53) (h2 : ¬ j = 55) : σ0.1 89 j = 0 := by
  show updA (updA (fun _ => 0) 53 10) 55 40 j = 0
  rw [updA_ne h2, updA_ne h1]
theorem ru0s (u : Int) (a : 0 ≤ u) (b : u ≤ 2) : RuI σ0 (rcN 1 u) ∧ σ0.1 (rcN 1 u) 2 = 0 := by
  rcases (show u = 0 ∨ u = 1 ∨ u = 2 by omega) with rfl | rfl | rfl
  · exact ⟨ru0 (r := 8) rfl rfl, rfl⟩
  · exact ⟨ru0 (r := 11) rfl rfl, rfl⟩
  · exact ⟨ru0 (r := 14) rfl rfl, rfl⟩
theorem inv0 : INV σ0 := by
  have hP : MrP (σ0.1 89) σ0 1 := ⟨⟨rfl, rfl, rfl⟩, fun j a b => n0 j (by omega) (by omega), fun j a b => n0 (50 + j) (by omega) (by omega), fun j a b => ⟨n0 (5 + 2 * j) (by omega) (by omega), n0 (6 + 2 * j) (by omega) (by omega), n0 (35 + j) (by omega) (by omega)⟩⟩
  have hR : MrR (σ0.1 89) σ0 1 := by
    refine ⟨⟨rfl, rfl, rfl⟩, fun u a b => ?_⟩
    have q := ru0s u a b
    exact ⟨q.1, (n0 (57 + 41 * u) (by omega) (by omega)).trans q.2.symm, fun k c d => absurd d (by rw [q.2]; omega)⟩
  refine ⟨⟨⟨by decide, by decide, by decide, by decide, by decide, by decide, fun j _ _ => ⟨Int.le_refl 0, by show (0 : Int) ≤ 12; decide⟩, fun j _ _ => ⟨Int.le_refl 0, by show (0 : Int) ≤ 60; decide⟩, fun j _ _ => ⟨Int.le_refl 0, by show (0 : Int) ≤ 200; decide⟩, fun j _ _ => ⟨Int.le_refl 0, by show (0 : Int) ≤ 50; decide⟩, fun j _ _ => ⟨Int.le_refl 0, by show (0 : Int) ≤ 12; decide⟩, Ru_Rl (ru0 rfl rfl), Ru_Rl (ru0 rfl rfl), Ru_Rl (ru0 rfl rfl)⟩, ⟨fun g w _ _ _ _ _ => rfl, fun g w _ _ _ _ _ => ⟨rfl, rfl⟩, fun g _ _ => by show (0 : Int) + 0 + 0 ≤ 0; decide⟩, hP, Or.inr ⟨rfl, hR⟩, ⟨rfl, rfl⟩, by decide, fun c _ _ => Or.inl rfl, fun i _ _ => ⟨Int.le_refl 0, by show (0 : Int) ≤ 12; decide⟩⟩, rfl, ⟨rfl, by decide, by decide, rfl, Ru_Rl (ru0 rfl rfl), Ru_Rl (ru0 rfl rfl), Ru_Rl (ru0 rfl rfl)⟩, fun k _ _ => ⟨Or.inl rfl, rfl, fun q => absurd rfl q⟩⟩

set_option maxHeartbeats 4000000 in
set_option maxRecDepth 100000 in
theorem law_c0 {X : AX} {σ : SG} {Q : Option AV → SG → Prop} (hn : X.1 < 2147483648) (i : Int) (h0 : 0 ≤ i) (h5 : i + 5 ≤ X.1) (h : INV σ) (K : ∀ τ, INV τ → Ev X 108 5241 10 mL_law 787 [some (sv 2), some (rv 0), some (rv 88), some (iv i)] [] τ Q) : Ev X 108 5241 10 mL_law 144 [some (sv 2), some (rv 0), some (rv 88), some (iv i)] [] σ Q := by
  refine e_aload_n (pc' := 145) dL_law_144 rfl rfl ?_
  refine e_scr (pc' := 146) dL_law_145 rfl rfl ?_
  refine e_iload_n (pc' := 147) dL_law_146 rfl rfl ?_
  refine e_iconst (pc' := 148) dL_law_147 rfl ?_
  refine e_iadd (pc' := 149) dL_law_148 rfl ?_
  refine e_sld (pc' := 150) dL_law_149 rfl (by omega) (by omega) (by omega) ?_
  refine e_cv1i (pc' := 153) dL_law_150 rfl k_12_13 h_0 rfl (Nat.le_of_ble_eq_true rfl) rfl rfl ⟨rfl, rfl⟩ ⟨by decide, by decide⟩ (p_giver h _ (i32_rg _)) ?_
  intro r1 σ1 h1
  refine e_aload_n (pc' := 154) dL_law_153 rfl rfl ?_
  refine e_scr (pc' := 155) dL_law_154 rfl rfl ?_
  refine e_iload_n (pc' := 156) dL_law_155 rfl rfl ?_
  refine e_iconst (pc' := 157) dL_law_156 rfl ?_
  refine e_iadd (pc' := 158) dL_law_157 rfl ?_
  refine e_sld (pc' := 159) dL_law_158 rfl (by omega) (by omega) (by omega) ?_
  refine e_cv1i (pc' := 162) dL_law_159 rfl k_12_17 h_88 rfl (Nat.le_of_ble_eq_true rfl) rfl rfl ⟨rfl, rfl⟩ ⟨by decide, by decide⟩ h1 ?_
  rintro r2 σ2 ⟨e, hI⟩
  subst e
  exact e_icmp (pc' := 165) (t := 787) dL_law_162 (by decide) rfl (fun _ => K _ hI) (fun q => absurd q (by rw [tst_rf]; decide))
set_option maxHeartbeats 4000000 in
set_option maxRecDepth 100000 in
theorem law_c1 {X : AX} {σ : SG} {Q : Option AV → SG → Prop} (hn : X.1 < 2147483648) (i : Int) (h0 : 0 ≤ i) (h5 : i + 5 ≤ X.1) (h : INV σ) (K : ∀ τ, INV τ → Ev X 108 5241 10 mL_law 787 [some (sv 2), some (rv 0), some (rv 88), some (iv i)] [] τ Q) : Ev X 108 5241 10 mL_law 167 [some (sv 2), some (rv 0), some (rv 88), some (iv i)] [] σ Q := by
  refine e_aload_n (pc' := 168) dL_law_167 rfl rfl ?_
  refine e_scr (pc' := 169) dL_law_168 rfl rfl ?_
  refine e_iload_n (pc' := 170) dL_law_169 rfl rfl ?_
  refine e_iconst (pc' := 171) dL_law_170 rfl ?_
  refine e_iadd (pc' := 172) dL_law_171 rfl ?_
  refine e_sld (pc' := 173) dL_law_172 rfl (by omega) (by omega) (by omega) ?_
  refine e_cv1i (pc' := 176) dL_law_173 rfl k_12_18 h_0 rfl (Nat.le_of_ble_eq_true rfl) rfl rfl ⟨rfl, rfl⟩ ⟨by decide, by decide⟩ (p_work h _ (i32_rg _)) ?_
  intro r1 σ1 h1
  refine e_aload_n (pc' := 177) dL_law_176 rfl rfl ?_
  refine e_scr (pc' := 178) dL_law_177 rfl rfl ?_
  refine e_iload_n (pc' := 179) dL_law_178 rfl rfl ?_
  refine e_iconst (pc' := 180) dL_law_179 rfl ?_
  refine e_iadd (pc' := 181) dL_law_180 rfl ?_
  refine e_sld (pc' := 182) dL_law_181 rfl (by omega) (by omega) (by omega) ?_
  refine e_cv1i (pc' := 185) dL_law_182 rfl k_12_21 h_88 rfl (Nat.le_of_ble_eq_true rfl) rfl rfl ⟨rfl, rfl⟩ ⟨by decide, by decide⟩ h1 ?_
  rintro r2 σ2 ⟨e, hI⟩
  subst e
  exact e_icmp (pc' := 188) (t := 787) dL_law_185 (by decide) rfl (fun _ => K _ hI) (fun q => absurd q (by rw [tst_rf]; decide))
set_option maxHeartbeats 4000000 in
set_option maxRecDepth 100000 in
theorem law_c2 {X : AX} {σ : SG} {Q : Option AV → SG → Prop} (hn : X.1 < 2147483648) (i : Int) (h0 : 0 ≤ i) (h5 : i + 5 ≤ X.1) (h : INV σ) (K : ∀ τ, INV τ → Ev X 108 5241 10 mL_law 787 [some (sv 2), some (rv 0), some (rv 88), some (iv i)] [] τ Q) : Ev X 108 5241 10 mL_law 190 [some (sv 2), some (rv 0), some (rv 88), some (iv i)] [] σ Q := by
  refine e_aload_n (pc' := 191) dL_law_190 rfl rfl ?_
  refine e_scr (pc' := 192) dL_law_191 rfl rfl ?_
  refine e_iload_n (pc' := 193) dL_law_192 rfl rfl ?_
  refine e_iconst (pc' := 194) dL_law_193 rfl ?_
  refine e_iadd (pc' := 195) dL_law_194 rfl ?_
  refine e_sld (pc' := 196) dL_law_195 rfl (by omega) (by omega) (by omega) ?_
  refine e_scr (pc' := 197) dL_law_196 rfl rfl ?_
  refine e_iload_n (pc' := 198) dL_law_197 rfl rfl ?_
  refine e_iconst (pc' := 199) dL_law_198 rfl ?_
  refine e_iadd (pc' := 200) dL_law_199 rfl ?_
  refine e_sld (pc' := 201) dL_law_200 rfl (by omega) (by omega) (by omega) ?_
  refine e_scr (pc' := 202) dL_law_201 rfl rfl ?_
  refine e_iload_n (pc' := 203) dL_law_202 rfl rfl ?_
  refine e_iconst (pc' := 204) dL_law_203 rfl ?_
  refine e_iadd (pc' := 205) dL_law_204 rfl ?_
  refine e_sld (pc' := 206) dL_law_205 rfl (by omega) (by omega) (by omega) ?_
  refine e_scr (pc' := 207) dL_law_206 rfl rfl ?_
  refine e_iload_n (pc' := 208) dL_law_207 rfl rfl ?_
  refine e_iconst (pc' := 209) dL_law_208 rfl ?_
  refine e_iadd (pc' := 210) dL_law_209 rfl ?_
  refine e_sld (pc' := 211) dL_law_210 rfl (by omega) (by omega) (by omega) ?_
  refine e_cv4i (pc' := 214) dL_law_211 rfl k_12_22 h_0 rfl (Nat.le_of_ble_eq_true rfl) rfl rfl ⟨rfl, rfl⟩ ⟨by decide, by decide⟩ (p_worth h _ _ _ _ (i32_rg _) (i32_rg _) (i32_rg _) (i32_rg _)) ?_
  intro r1 σ1 h1
  refine e_aload_n (pc' := 215) dL_law_214 rfl rfl ?_
  refine e_scr (pc' := 216) dL_law_215 rfl rfl ?_
  refine e_iload_n (pc' := 217) dL_law_216 rfl rfl ?_
  refine e_iconst (pc' := 218) dL_law_217 rfl ?_
  refine e_iadd (pc' := 219) dL_law_218 rfl ?_
  refine e_sld (pc' := 220) dL_law_219 rfl (by omega) (by omega) (by omega) ?_
  refine e_scr (pc' := 221) dL_law_220 rfl rfl ?_
  refine e_iload_n (pc' := 222) dL_law_221 rfl rfl ?_
  refine e_iconst (pc' := 223) dL_law_222 rfl ?_
  refine e_iadd (pc' := 224) dL_law_223 rfl ?_
  refine e_sld (pc' := 225) dL_law_224 rfl (by omega) (by omega) (by omega) ?_
  refine e_scr (pc' := 226) dL_law_225 rfl rfl ?_
  refine e_iload_n (pc' := 227) dL_law_226 rfl rfl ?_
  refine e_iconst (pc' := 228) dL_law_227 rfl ?_
  refine e_iadd (pc' := 229) dL_law_228 rfl ?_
  refine e_sld (pc' := 230) dL_law_229 rfl (by omega) (by omega) (by omega) ?_
  refine e_scr (pc' := 231) dL_law_230 rfl rfl ?_
  refine e_iload_n (pc' := 232) dL_law_231 rfl rfl ?_
  refine e_iconst (pc' := 233) dL_law_232 rfl ?_
  refine e_iadd (pc' := 234) dL_law_233 rfl ?_
  refine e_sld (pc' := 235) dL_law_234 rfl (by omega) (by omega) (by omega) ?_
  refine e_cv4i (pc' := 238) dL_law_235 rfl k_12_26 h_88 rfl (Nat.le_of_ble_eq_true rfl) rfl rfl ⟨rfl, rfl⟩ ⟨by decide, by decide⟩ h1 ?_
  rintro r2 σ2 ⟨e, hI⟩
  subst e
  exact e_icmp (pc' := 241) (t := 787) dL_law_238 (by decide) rfl (fun _ => K _ hI) (fun q => absurd q (by rw [tst_rf]; decide))
set_option maxHeartbeats 4000000 in
set_option maxRecDepth 100000 in
theorem law_c3 {X : AX} {σ : SG} {Q : Option AV → SG → Prop} (hn : X.1 < 2147483648) (i : Int) (h0 : 0 ≤ i) (h5 : i + 5 ≤ X.1) (h : INV σ) (K : ∀ τ, INV τ → Ev X 108 5241 10 mL_law 787 [some (sv 2), some (rv 0), some (rv 88), some (iv i)] [] τ Q) : Ev X 108 5241 10 mL_law 243 [some (sv 2), some (rv 0), some (rv 88), some (iv i)] [] σ Q := by
  refine e_aload_n (pc' := 244) dL_law_243 rfl rfl ?_
  refine e_scr (pc' := 245) dL_law_244 rfl rfl ?_
  refine e_iload_n (pc' := 246) dL_law_245 rfl rfl ?_
  refine e_iconst (pc' := 247) dL_law_246 rfl ?_
  refine e_iadd (pc' := 248) dL_law_247 rfl ?_
  refine e_sld (pc' := 249) dL_law_248 rfl (by omega) (by omega) (by omega) ?_
  refine e_scr (pc' := 250) dL_law_249 rfl rfl ?_
  refine e_iload_n (pc' := 251) dL_law_250 rfl rfl ?_
  refine e_iconst (pc' := 252) dL_law_251 rfl ?_
  refine e_iadd (pc' := 253) dL_law_252 rfl ?_
  refine e_sld (pc' := 254) dL_law_253 rfl (by omega) (by omega) (by omega) ?_
  refine e_cv2i (pc' := 257) dL_law_254 rfl k_12_27 h_0 rfl (Nat.le_of_ble_eq_true rfl) rfl rfl ⟨rfl, rfl⟩ ⟨by decide, by decide⟩ (p_set h _ _ (i32_rg _) (i32_rg _)) ?_
  intro r1 σ1 h1
  refine e_aload_n (pc' := 258) dL_law_257 rfl rfl ?_
  refine e_scr (pc' := 259) dL_law_258 rfl rfl ?_
  refine e_iload_n (pc' := 260) dL_law_259 rfl rfl ?_
  refine e_iconst (pc' := 261) dL_law_260 rfl ?_
  refine e_iadd (pc' := 262) dL_law_261 rfl ?_
  refine e_sld (pc' := 263) dL_law_262 rfl (by omega) (by omega) (by omega) ?_
  refine e_scr (pc' := 264) dL_law_263 rfl rfl ?_
  refine e_iload_n (pc' := 265) dL_law_264 rfl rfl ?_
  refine e_iconst (pc' := 266) dL_law_265 rfl ?_
  refine e_iadd (pc' := 267) dL_law_266 rfl ?_
  refine e_sld (pc' := 268) dL_law_267 rfl (by omega) (by omega) (by omega) ?_
  refine e_cv2i (pc' := 271) dL_law_268 rfl k_12_31 h_88 rfl (Nat.le_of_ble_eq_true rfl) rfl rfl ⟨rfl, rfl⟩ ⟨by decide, by decide⟩ h1 ?_
  rintro r2 σ2 ⟨e, hI⟩
  subst e
  exact e_icmp (pc' := 274) (t := 787) dL_law_271 (by decide) rfl (fun _ => K _ hI) (fun q => absurd q (by rw [tst_rf]; decide))
set_option maxHeartbeats 4000000 in
set_option maxRecDepth 100000 in
theorem law_c4 {X : AX} {σ : SG} {Q : Option AV → SG → Prop} (hn : X.1 < 2147483648) (i : Int) (h0 : 0 ≤ i) (h5 : i + 5 ≤ X.1) (h : INV σ) (K : ∀ τ, INV τ → Ev X 108 5241 10 mL_law 787 [some (sv 2), some (rv 0), some (rv 88), some (iv i)] [] τ Q) : Ev X 108 5241 10 mL_law 276 [some (sv 2), some (rv 0), some (rv 88), some (iv i)] [] σ Q := by
  refine e_aload_n (pc' := 277) dL_law_276 rfl rfl ?_
  refine e_scr (pc' := 278) dL_law_277 rfl rfl ?_
  refine e_iload_n (pc' := 279) dL_law_278 rfl rfl ?_
  refine e_iconst (pc' := 280) dL_law_279 rfl ?_
  refine e_iadd (pc' := 281) dL_law_280 rfl ?_
  refine e_sld (pc' := 282) dL_law_281 rfl (by omega) (by omega) (by omega) ?_
  refine e_scr (pc' := 283) dL_law_282 rfl rfl ?_
  refine e_iload_n (pc' := 284) dL_law_283 rfl rfl ?_
  refine e_iconst (pc' := 285) dL_law_284 rfl ?_
  refine e_iadd (pc' := 286) dL_law_285 rfl ?_
  refine e_sld (pc' := 287) dL_law_286 rfl (by omega) (by omega) (by omega) ?_
  refine e_cv2i (pc' := 290) dL_law_287 rfl k_12_32 h_0 rfl (Nat.le_of_ble_eq_true rfl) rfl rfl ⟨rfl, rfl⟩ ⟨by decide, by decide⟩ (p_write h _ _ (i32_rg _) (i32_rg _)) ?_
  intro r1 σ1 h1
  refine e_aload_n (pc' := 291) dL_law_290 rfl rfl ?_
  refine e_scr (pc' := 292) dL_law_291 rfl rfl ?_
  refine e_iload_n (pc' := 293) dL_law_292 rfl rfl ?_
  refine e_iconst (pc' := 294) dL_law_293 rfl ?_
  refine e_iadd (pc' := 295) dL_law_294 rfl ?_
  refine e_sld (pc' := 296) dL_law_295 rfl (by omega) (by omega) (by omega) ?_
  refine e_scr (pc' := 297) dL_law_296 rfl rfl ?_
  refine e_iload_n (pc' := 298) dL_law_297 rfl rfl ?_
  refine e_iconst (pc' := 299) dL_law_298 rfl ?_
  refine e_iadd (pc' := 300) dL_law_299 rfl ?_
  refine e_sld (pc' := 301) dL_law_300 rfl (by omega) (by omega) (by omega) ?_
  refine e_cv2i (pc' := 304) dL_law_301 rfl k_12_35 h_88 rfl (Nat.le_of_ble_eq_true rfl) rfl rfl ⟨rfl, rfl⟩ ⟨by decide, by decide⟩ h1 ?_
  rintro r2 σ2 ⟨e, hI⟩
  subst e
  exact e_icmp (pc' := 307) (t := 787) dL_law_304 (by decide) rfl (fun _ => K _ hI) (fun q => absurd q (by rw [tst_rf]; decide))
set_option maxHeartbeats 4000000 in
set_option maxRecDepth 100000 in
theorem law_c5 {X : AX} {σ : SG} {Q : Option AV → SG → Prop} (hn : X.1 < 2147483648) (i : Int) (h0 : 0 ≤ i) (h5 : i + 5 ≤ X.1) (h : INV σ) (K : ∀ τ, INV τ → Ev X 108 5241 10 mL_law 787 [some (sv 2), some (rv 0), some (rv 88), some (iv i)] [] τ Q) : Ev X 108 5241 10 mL_law 309 [some (sv 2), some (rv 0), some (rv 88), some (iv i)] [] σ Q := by
  refine e_aload_n (pc' := 310) dL_law_309 rfl rfl ?_
  refine e_scr (pc' := 311) dL_law_310 rfl rfl ?_
  refine e_iload_n (pc' := 312) dL_law_311 rfl rfl ?_
  refine e_iconst (pc' := 313) dL_law_312 rfl ?_
  refine e_iadd (pc' := 314) dL_law_313 rfl ?_
  refine e_sld (pc' := 315) dL_law_314 rfl (by omega) (by omega) (by omega) ?_
  refine e_cv1i (pc' := 318) dL_law_315 rfl k_12_36 h_0 rfl (Nat.le_of_ble_eq_true rfl) rfl rfl ⟨rfl, rfl⟩ ⟨by decide, by decide⟩ (p_erase h _ (i32_rg _)) ?_
  intro r1 σ1 h1
  refine e_aload_n (pc' := 319) dL_law_318 rfl rfl ?_
  refine e_scr (pc' := 320) dL_law_319 rfl rfl ?_
  refine e_iload_n (pc' := 321) dL_law_320 rfl rfl ?_
  refine e_iconst (pc' := 322) dL_law_321 rfl ?_
  refine e_iadd (pc' := 323) dL_law_322 rfl ?_
  refine e_sld (pc' := 324) dL_law_323 rfl (by omega) (by omega) (by omega) ?_
  refine e_cv1i (pc' := 327) dL_law_324 rfl k_12_39 h_88 rfl (Nat.le_of_ble_eq_true rfl) rfl rfl ⟨rfl, rfl⟩ ⟨by decide, by decide⟩ h1 ?_
  rintro r2 σ2 ⟨e, hI⟩
  subst e
  exact e_icmp (pc' := 330) (t := 787) dL_law_327 (by decide) rfl (fun _ => K _ hI) (fun q => absurd q (by rw [tst_rf]; decide))
set_option maxHeartbeats 4000000 in
set_option maxRecDepth 100000 in
theorem law_c6 {X : AX} {σ : SG} {Q : Option AV → SG → Prop} (hn : X.1 < 2147483648) (i : Int) (h0 : 0 ≤ i) (h5 : i + 5 ≤ X.1) (h : INV σ) (K : ∀ τ, INV τ → Ev X 108 5241 10 mL_law 787 [some (sv 2), some (rv 0), some (rv 88), some (iv i)] [] τ Q) : Ev X 108 5241 10 mL_law 332 [some (sv 2), some (rv 0), some (rv 88), some (iv i)] [] σ Q := by
  refine e_aload_n (pc' := 333) dL_law_332 rfl rfl ?_
  refine e_scr (pc' := 334) dL_law_333 rfl rfl ?_
  refine e_iload_n (pc' := 335) dL_law_334 rfl rfl ?_
  refine e_iconst (pc' := 336) dL_law_335 rfl ?_
  refine e_iadd (pc' := 337) dL_law_336 rfl ?_
  refine e_sld (pc' := 338) dL_law_337 rfl (by omega) (by omega) (by omega) ?_
  refine e_cv1i (pc' := 341) dL_law_338 rfl k_12_40 h_0 rfl (Nat.le_of_ble_eq_true rfl) rfl rfl ⟨rfl, rfl⟩ ⟨by decide, by decide⟩ (p_fault h _ (i32_rg _)) ?_
  intro r1 σ1 h1
  refine e_aload_n (pc' := 342) dL_law_341 rfl rfl ?_
  refine e_scr (pc' := 343) dL_law_342 rfl rfl ?_
  refine e_iload_n (pc' := 344) dL_law_343 rfl rfl ?_
  refine e_iconst (pc' := 345) dL_law_344 rfl ?_
  refine e_iadd (pc' := 346) dL_law_345 rfl ?_
  refine e_sld (pc' := 347) dL_law_346 rfl (by omega) (by omega) (by omega) ?_
  refine e_cv1i (pc' := 350) dL_law_347 rfl k_12_43 h_88 rfl (Nat.le_of_ble_eq_true rfl) rfl rfl ⟨rfl, rfl⟩ ⟨by decide, by decide⟩ h1 ?_
  rintro r2 σ2 ⟨e, hI⟩
  subst e
  exact e_icmp (pc' := 353) (t := 787) dL_law_350 (by decide) rfl (fun _ => K _ hI) (fun q => absurd q (by rw [tst_rf]; decide))
set_option maxHeartbeats 4000000 in
set_option maxRecDepth 100000 in
theorem law_c7 {X : AX} {σ : SG} {Q : Option AV → SG → Prop} (hn : X.1 < 2147483648) (i : Int) (h0 : 0 ≤ i) (h5 : i + 5 ≤ X.1) (h : INV σ) (K : ∀ τ, INV τ → Ev X 108 5241 10 mL_law 787 [some (sv 2), some (rv 0), some (rv 88), some (iv i)] [] τ Q) : Ev X 108 5241 10 mL_law 355 [some (sv 2), some (rv 0), some (rv 88), some (iv i)] [] σ Q := by
  refine e_aload_n (pc' := 356) dL_law_355 rfl rfl ?_
  refine e_scr (pc' := 357) dL_law_356 rfl rfl ?_
  refine e_iload_n (pc' := 358) dL_law_357 rfl rfl ?_
  refine e_iconst (pc' := 359) dL_law_358 rfl ?_
  refine e_iadd (pc' := 360) dL_law_359 rfl ?_
  refine e_sld (pc' := 361) dL_law_360 rfl (by omega) (by omega) (by omega) ?_
  refine e_scr (pc' := 362) dL_law_361 rfl rfl ?_
  refine e_iload_n (pc' := 363) dL_law_362 rfl rfl ?_
  refine e_iconst (pc' := 364) dL_law_363 rfl ?_
  refine e_iadd (pc' := 365) dL_law_364 rfl ?_
  refine e_sld (pc' := 366) dL_law_365 rfl (by omega) (by omega) (by omega) ?_
  refine e_scr (pc' := 367) dL_law_366 rfl rfl ?_
  refine e_iload_n (pc' := 368) dL_law_367 rfl rfl ?_
  refine e_iconst (pc' := 369) dL_law_368 rfl ?_
  refine e_iadd (pc' := 370) dL_law_369 rfl ?_
  refine e_sld (pc' := 371) dL_law_370 rfl (by omega) (by omega) (by omega) ?_
  refine e_cv3i (pc' := 374) dL_law_371 rfl k_12_44 h_0 rfl (Nat.le_of_ble_eq_true rfl) rfl rfl ⟨rfl, rfl⟩ ⟨by decide, by decide⟩ (p_give h _ _ _ (i32_rg _) (i32_rg _) (i32_rg _)) ?_
  intro r1 σ1 h1
  refine e_aload_n (pc' := 375) dL_law_374 rfl rfl ?_
  refine e_scr (pc' := 376) dL_law_375 rfl rfl ?_
  refine e_iload_n (pc' := 377) dL_law_376 rfl rfl ?_
  refine e_iconst (pc' := 378) dL_law_377 rfl ?_
  refine e_iadd (pc' := 379) dL_law_378 rfl ?_
  refine e_sld (pc' := 380) dL_law_379 rfl (by omega) (by omega) (by omega) ?_
  refine e_scr (pc' := 381) dL_law_380 rfl rfl ?_
  refine e_iload_n (pc' := 382) dL_law_381 rfl rfl ?_
  refine e_iconst (pc' := 383) dL_law_382 rfl ?_
  refine e_iadd (pc' := 384) dL_law_383 rfl ?_
  refine e_sld (pc' := 385) dL_law_384 rfl (by omega) (by omega) (by omega) ?_
  refine e_scr (pc' := 386) dL_law_385 rfl rfl ?_
  refine e_iload_n (pc' := 387) dL_law_386 rfl rfl ?_
  refine e_iconst (pc' := 388) dL_law_387 rfl ?_
  refine e_iadd (pc' := 389) dL_law_388 rfl ?_
  refine e_sld (pc' := 390) dL_law_389 rfl (by omega) (by omega) (by omega) ?_
  refine e_cv3i (pc' := 393) dL_law_390 rfl k_12_48 h_88 rfl (Nat.le_of_ble_eq_true rfl) rfl rfl ⟨rfl, rfl⟩ ⟨by decide, by decide⟩ h1 ?_
  rintro r2 σ2 ⟨e, hI⟩
  subst e
  exact e_icmp (pc' := 396) (t := 787) dL_law_393 (by decide) rfl (fun _ => K _ hI) (fun q => absurd q (by rw [tst_rf]; decide))
set_option maxHeartbeats 4000000 in
set_option maxRecDepth 100000 in
theorem law_c8 {X : AX} {σ : SG} {Q : Option AV → SG → Prop} (hn : X.1 < 2147483648) (i : Int) (h0 : 0 ≤ i) (h5 : i + 5 ≤ X.1) (h : INV σ) (K : ∀ τ, INV τ → Ev X 108 5241 10 mL_law 787 [some (sv 2), some (rv 0), some (rv 88), some (iv i)] [] τ Q) : Ev X 108 5241 10 mL_law 398 [some (sv 2), some (rv 0), some (rv 88), some (iv i)] [] σ Q := by
  refine e_aload_n (pc' := 399) dL_law_398 rfl rfl ?_
  refine e_scr (pc' := 400) dL_law_399 rfl rfl ?_
  refine e_iload_n (pc' := 401) dL_law_400 rfl rfl ?_
  refine e_iconst (pc' := 402) dL_law_401 rfl ?_
  refine e_iadd (pc' := 403) dL_law_402 rfl ?_
  refine e_sld (pc' := 404) dL_law_403 rfl (by omega) (by omega) (by omega) ?_
  refine e_scr (pc' := 405) dL_law_404 rfl rfl ?_
  refine e_iload_n (pc' := 406) dL_law_405 rfl rfl ?_
  refine e_iconst (pc' := 407) dL_law_406 rfl ?_
  refine e_iadd (pc' := 408) dL_law_407 rfl ?_
  refine e_sld (pc' := 409) dL_law_408 rfl (by omega) (by omega) (by omega) ?_
  refine e_cv2i (pc' := 412) dL_law_409 rfl k_12_49 h_0 rfl (Nat.le_of_ble_eq_true rfl) rfl rfl ⟨rfl, rfl⟩ ⟨by decide, by decide⟩ (p_amount h _ _ (i32_rg _) (i32_rg _)) ?_
  intro r1 σ1 h1
  refine e_aload_n (pc' := 413) dL_law_412 rfl rfl ?_
  refine e_scr (pc' := 414) dL_law_413 rfl rfl ?_
  refine e_iload_n (pc' := 415) dL_law_414 rfl rfl ?_
  refine e_iconst (pc' := 416) dL_law_415 rfl ?_
  refine e_iadd (pc' := 417) dL_law_416 rfl ?_
  refine e_sld (pc' := 418) dL_law_417 rfl (by omega) (by omega) (by omega) ?_
  refine e_scr (pc' := 419) dL_law_418 rfl rfl ?_
  refine e_iload_n (pc' := 420) dL_law_419 rfl rfl ?_
  refine e_iconst (pc' := 421) dL_law_420 rfl ?_
  refine e_iadd (pc' := 422) dL_law_421 rfl ?_
  refine e_sld (pc' := 423) dL_law_422 rfl (by omega) (by omega) (by omega) ?_
  refine e_cv2i (pc' := 426) dL_law_423 rfl k_12_52 h_88 rfl (Nat.le_of_ble_eq_true rfl) rfl rfl ⟨rfl, rfl⟩ ⟨by decide, by decide⟩ h1 ?_
  rintro r2 σ2 ⟨e, hI⟩
  subst e
  exact e_icmp (pc' := 429) (t := 787) dL_law_426 (by decide) rfl (fun _ => K _ hI) (fun q => absurd q (by rw [tst_rf]; decide))
set_option maxHeartbeats 4000000 in
set_option maxRecDepth 100000 in
theorem law_c9 {X : AX} {σ : SG} {Q : Option AV → SG → Prop} (hn : X.1 < 2147483648) (i : Int) (h0 : 0 ≤ i) (h5 : i + 5 ≤ X.1) (h : INV σ) (K : ∀ τ, INV τ → Ev X 108 5241 10 mL_law 787 [some (sv 2), some (rv 0), some (rv 88), some (iv i)] [] τ Q) : Ev X 108 5241 10 mL_law 431 [some (sv 2), some (rv 0), some (rv 88), some (iv i)] [] σ Q := by
  refine e_aload_n (pc' := 432) dL_law_431 rfl rfl ?_
  refine e_cv0i (pc' := 435) dL_law_432 rfl k_12_53 h_0 rfl (Nat.le_of_ble_eq_true rfl) rfl rfl ⟨rfl, rfl⟩ ⟨by decide, by decide⟩ (p_isShort h) ?_
  intro r1 σ1 h1
  refine e_aload_n (pc' := 436) dL_law_435 rfl rfl ?_
  refine e_cv0i (pc' := 439) dL_law_436 rfl k_12_57 h_88 rfl (Nat.le_of_ble_eq_true rfl) rfl rfl ⟨rfl, rfl⟩ ⟨by decide, by decide⟩ h1 ?_
  rintro r2 σ2 ⟨e, hI⟩
  subst e
  exact e_icmp (pc' := 442) (t := 787) dL_law_439 (by decide) rfl (fun _ => K _ hI) (fun q => absurd q (by rw [tst_rf]; decide))
set_option maxHeartbeats 4000000 in
set_option maxRecDepth 100000 in
theorem law_c10 {X : AX} {σ : SG} {Q : Option AV → SG → Prop} (hn : X.1 < 2147483648) (i : Int) (h0 : 0 ≤ i) (h5 : i + 5 ≤ X.1) (h : INV σ) (K : ∀ τ, INV τ → Ev X 108 5241 10 mL_law 787 [some (sv 2), some (rv 0), some (rv 88), some (iv i)] [] τ Q) : Ev X 108 5241 10 mL_law 444 [some (sv 2), some (rv 0), some (rv 88), some (iv i)] [] σ Q := by
  refine e_aload_n (pc' := 445) dL_law_444 rfl rfl ?_
  refine e_scr (pc' := 446) dL_law_445 rfl rfl ?_
  refine e_iload_n (pc' := 447) dL_law_446 rfl rfl ?_
  refine e_iconst (pc' := 448) dL_law_447 rfl ?_
  refine e_iadd (pc' := 449) dL_law_448 rfl ?_
  refine e_sld (pc' := 450) dL_law_449 rfl (by omega) (by omega) (by omega) ?_
  refine e_cv1i (pc' := 453) dL_law_450 rfl k_12_58 h_0 rfl (Nat.le_of_ble_eq_true rfl) rfl rfl ⟨rfl, rfl⟩ ⟨by decide, by decide⟩ (p_has h _ (i32_rg _)) ?_
  intro r1 σ1 h1
  refine e_aload_n (pc' := 454) dL_law_453 rfl rfl ?_
  refine e_scr (pc' := 455) dL_law_454 rfl rfl ?_
  refine e_iload_n (pc' := 456) dL_law_455 rfl rfl ?_
  refine e_iconst (pc' := 457) dL_law_456 rfl ?_
  refine e_iadd (pc' := 458) dL_law_457 rfl ?_
  refine e_sld (pc' := 459) dL_law_458 rfl (by omega) (by omega) (by omega) ?_
  refine e_cv1i (pc' := 462) dL_law_459 rfl k_12_61 h_88 rfl (Nat.le_of_ble_eq_true rfl) rfl rfl ⟨rfl, rfl⟩ ⟨by decide, by decide⟩ h1 ?_
  rintro r2 σ2 ⟨e, hI⟩
  subst e
  exact e_icmp (pc' := 465) (t := 787) dL_law_462 (by decide) rfl (fun _ => K _ hI) (fun q => absurd q (by rw [tst_rf]; decide))
set_option maxHeartbeats 4000000 in
set_option maxRecDepth 100000 in
theorem law_c11 {X : AX} {σ : SG} {Q : Option AV → SG → Prop} (hn : X.1 < 2147483648) (i : Int) (h0 : 0 ≤ i) (h5 : i + 5 ≤ X.1) (h : INV σ) (K : ∀ τ, INV τ → Ev X 108 5241 10 mL_law 787 [some (sv 2), some (rv 0), some (rv 88), some (iv i)] [] τ Q) : Ev X 108 5241 10 mL_law 467 [some (sv 2), some (rv 0), some (rv 88), some (iv i)] [] σ Q := by
  refine e_aload_n (pc' := 468) dL_law_467 rfl rfl ?_
  refine e_scr (pc' := 469) dL_law_468 rfl rfl ?_
  refine e_iload_n (pc' := 470) dL_law_469 rfl rfl ?_
  refine e_iconst (pc' := 471) dL_law_470 rfl ?_
  refine e_iadd (pc' := 472) dL_law_471 rfl ?_
  refine e_sld (pc' := 473) dL_law_472 rfl (by omega) (by omega) (by omega) ?_
  refine e_scr (pc' := 474) dL_law_473 rfl rfl ?_
  refine e_iload_n (pc' := 475) dL_law_474 rfl rfl ?_
  refine e_iconst (pc' := 476) dL_law_475 rfl ?_
  refine e_iadd (pc' := 477) dL_law_476 rfl ?_
  refine e_sld (pc' := 478) dL_law_477 rfl (by omega) (by omega) (by omega) ?_
  refine e_cv2i (pc' := 481) dL_law_478 rfl k_12_62 h_0 rfl (Nat.le_of_ble_eq_true rfl) rfl rfl ⟨rfl, rfl⟩ ⟨by decide, by decide⟩ (p_best h _ _ (i32_rg _) (i32_rg _)) ?_
  intro r1 σ1 h1
  refine e_aload_n (pc' := 482) dL_law_481 rfl rfl ?_
  refine e_scr (pc' := 483) dL_law_482 rfl rfl ?_
  refine e_iload_n (pc' := 484) dL_law_483 rfl rfl ?_
  refine e_iconst (pc' := 485) dL_law_484 rfl ?_
  refine e_iadd (pc' := 486) dL_law_485 rfl ?_
  refine e_sld (pc' := 487) dL_law_486 rfl (by omega) (by omega) (by omega) ?_
  refine e_scr (pc' := 488) dL_law_487 rfl rfl ?_
  refine e_iload_n (pc' := 489) dL_law_488 rfl rfl ?_
  refine e_iconst (pc' := 490) dL_law_489 rfl ?_
  refine e_iadd (pc' := 491) dL_law_490 rfl ?_
  refine e_sld (pc' := 492) dL_law_491 rfl (by omega) (by omega) (by omega) ?_
  refine e_cv2i (pc' := 495) dL_law_492 rfl k_12_65 h_88 rfl (Nat.le_of_ble_eq_true rfl) rfl rfl ⟨rfl, rfl⟩ ⟨by decide, by decide⟩ h1 ?_
  rintro r2 σ2 ⟨e, hI⟩
  subst e
  exact e_icmp (pc' := 498) (t := 787) dL_law_495 (by decide) rfl (fun _ => K _ hI) (fun q => absurd q (by rw [tst_rf]; decide))
set_option maxHeartbeats 4000000 in
set_option maxRecDepth 100000 in
theorem law_c12 {X : AX} {σ : SG} {Q : Option AV → SG → Prop} (hn : X.1 < 2147483648) (i : Int) (h0 : 0 ≤ i) (h5 : i + 5 ≤ X.1) (h : INV σ) (K : ∀ τ, INV τ → Ev X 108 5241 10 mL_law 787 [some (sv 2), some (rv 0), some (rv 88), some (iv i)] [] τ Q) : Ev X 108 5241 10 mL_law 500 [some (sv 2), some (rv 0), some (rv 88), some (iv i)] [] σ Q := by
  refine e_aload_n (pc' := 501) dL_law_500 rfl rfl ?_
  refine e_scr (pc' := 502) dL_law_501 rfl rfl ?_
  refine e_iload_n (pc' := 503) dL_law_502 rfl rfl ?_
  refine e_iconst (pc' := 504) dL_law_503 rfl ?_
  refine e_iadd (pc' := 505) dL_law_504 rfl ?_
  refine e_sld (pc' := 506) dL_law_505 rfl (by omega) (by omega) (by omega) ?_
  refine e_cv1i (pc' := 509) dL_law_506 rfl k_12_66 h_0 rfl (Nat.le_of_ble_eq_true rfl) rfl rfl ⟨rfl, rfl⟩ ⟨by decide, by decide⟩ (p_rest h _ (i32_rg _)) ?_
  intro r1 σ1 h1
  refine e_aload_n (pc' := 510) dL_law_509 rfl rfl ?_
  refine e_scr (pc' := 511) dL_law_510 rfl rfl ?_
  refine e_iload_n (pc' := 512) dL_law_511 rfl rfl ?_
  refine e_iconst (pc' := 513) dL_law_512 rfl ?_
  refine e_iadd (pc' := 514) dL_law_513 rfl ?_
  refine e_sld (pc' := 515) dL_law_514 rfl (by omega) (by omega) (by omega) ?_
  refine e_cv1i (pc' := 518) dL_law_515 rfl k_12_69 h_88 rfl (Nat.le_of_ble_eq_true rfl) rfl rfl ⟨rfl, rfl⟩ ⟨by decide, by decide⟩ h1 ?_
  rintro r2 σ2 ⟨e, hI⟩
  subst e
  exact e_icmp (pc' := 521) (t := 787) dL_law_518 (by decide) rfl (fun _ => K _ hI) (fun q => absurd q (by rw [tst_rf]; decide))
set_option maxHeartbeats 4000000 in
set_option maxRecDepth 100000 in
theorem law_c13 {X : AX} {σ : SG} {Q : Option AV → SG → Prop} (hn : X.1 < 2147483648) (i : Int) (h0 : 0 ≤ i) (h5 : i + 5 ≤ X.1) (h : INV σ) (K : ∀ τ, INV τ → Ev X 108 5241 10 mL_law 787 [some (sv 2), some (rv 0), some (rv 88), some (iv i)] [] τ Q) : Ev X 108 5241 10 mL_law 523 [some (sv 2), some (rv 0), some (rv 88), some (iv i)] [] σ Q := by
  refine e_aload_n (pc' := 524) dL_law_523 rfl rfl ?_
  refine e_cv0i (pc' := 527) dL_law_524 rfl k_12_70 h_0 rfl (Nat.le_of_ble_eq_true rfl) rfl rfl ⟨rfl, rfl⟩ ⟨by decide, by decide⟩ (p_turns h) ?_
  intro r1 σ1 h1
  refine e_aload_n (pc' := 528) dL_law_527 rfl rfl ?_
  refine e_cv0i (pc' := 531) dL_law_528 rfl k_12_73 h_88 rfl (Nat.le_of_ble_eq_true rfl) rfl rfl ⟨rfl, rfl⟩ ⟨by decide, by decide⟩ h1 ?_
  rintro r2 σ2 ⟨e, hI⟩
  subst e
  exact e_icmp (pc' := 534) (t := 787) dL_law_531 (by decide) rfl (fun _ => K _ hI) (fun q => absurd q (by rw [tst_rf]; decide))
set_option maxHeartbeats 4000000 in
set_option maxRecDepth 100000 in
theorem law_c14 {X : AX} {σ : SG} {Q : Option AV → SG → Prop} (hn : X.1 < 2147483648) (i : Int) (h0 : 0 ≤ i) (h5 : i + 5 ≤ X.1) (h : INV σ) (K : ∀ τ, INV τ → Ev X 108 5241 10 mL_law 787 [some (sv 2), some (rv 0), some (rv 88), some (iv i)] [] τ Q) : Ev X 108 5241 10 mL_law 536 [some (sv 2), some (rv 0), some (rv 88), some (iv i)] [] σ Q := by
  refine e_aload_n (pc' := 537) dL_law_536 rfl rfl ?_
  refine e_scr (pc' := 538) dL_law_537 rfl rfl ?_
  refine e_iload_n (pc' := 539) dL_law_538 rfl rfl ?_
  refine e_iconst (pc' := 540) dL_law_539 rfl ?_
  refine e_iadd (pc' := 541) dL_law_540 rfl ?_
  refine e_sld (pc' := 542) dL_law_541 rfl (by omega) (by omega) (by omega) ?_
  refine e_cv1i (pc' := 545) dL_law_542 rfl k_12_74 h_0 rfl (Nat.le_of_ble_eq_true rfl) rfl rfl ⟨rfl, rfl⟩ ⟨by decide, by decide⟩ (p_good h _ (i32_rg _)) ?_
  intro r1 σ1 h1
  refine e_aload_n (pc' := 546) dL_law_545 rfl rfl ?_
  refine e_scr (pc' := 547) dL_law_546 rfl rfl ?_
  refine e_iload_n (pc' := 548) dL_law_547 rfl rfl ?_
  refine e_iconst (pc' := 549) dL_law_548 rfl ?_
  refine e_iadd (pc' := 550) dL_law_549 rfl ?_
  refine e_sld (pc' := 551) dL_law_550 rfl (by omega) (by omega) (by omega) ?_
  refine e_cv1i (pc' := 554) dL_law_551 rfl k_12_77 h_88 rfl (Nat.le_of_ble_eq_true rfl) rfl rfl ⟨rfl, rfl⟩ ⟨by decide, by decide⟩ h1 ?_
  rintro r2 σ2 ⟨e, hI⟩
  subst e
  exact e_icmp (pc' := 557) (t := 787) dL_law_554 (by decide) rfl (fun _ => K _ hI) (fun q => absurd q (by rw [tst_rf]; decide))
set_option maxHeartbeats 4000000 in
set_option maxRecDepth 100000 in
theorem law_c15 {X : AX} {σ : SG} {Q : Option AV → SG → Prop} (hn : X.1 < 2147483648) (i : Int) (h0 : 0 ≤ i) (h5 : i + 5 ≤ X.1) (h : INV σ) (K : ∀ τ, INV τ → Ev X 108 5241 10 mL_law 787 [some (sv 2), some (rv 0), some (rv 88), some (iv i)] [] τ Q) : Ev X 108 5241 10 mL_law 559 [some (sv 2), some (rv 0), some (rv 88), some (iv i)] [] σ Q := by
  refine e_aload_n (pc' := 560) dL_law_559 rfl rfl ?_
  refine e_cv0i (pc' := 563) dL_law_560 rfl k_12_78 h_0 rfl (Nat.le_of_ble_eq_true rfl) rfl rfl ⟨rfl, rfl⟩ ⟨by decide, by decide⟩ (p_lost h) ?_
  intro r1 σ1 h1
  refine e_aload_n (pc' := 564) dL_law_563 rfl rfl ?_
  refine e_cv0i (pc' := 567) dL_law_564 rfl k_12_81 h_88 rfl (Nat.le_of_ble_eq_true rfl) rfl rfl ⟨rfl, rfl⟩ ⟨by decide, by decide⟩ h1 ?_
  rintro r2 σ2 ⟨e, hI⟩
  subst e
  exact e_icmp (pc' := 570) (t := 787) dL_law_567 (by decide) rfl (fun _ => K _ hI) (fun q => absurd q (by rw [tst_rf]; decide))
set_option maxHeartbeats 4000000 in
set_option maxRecDepth 100000 in
theorem law_c16 {X : AX} {σ : SG} {Q : Option AV → SG → Prop} (hn : X.1 < 2147483648) (i : Int) (h0 : 0 ≤ i) (h5 : i + 5 ≤ X.1) (h : INV σ) (K : ∀ τ, INV τ → Ev X 108 5241 10 mL_law 787 [some (sv 2), some (rv 0), some (rv 88), some (iv i)] [] τ Q) : Ev X 108 5241 10 mL_law 572 [some (sv 2), some (rv 0), some (rv 88), some (iv i)] [] σ Q := by
  refine e_aload_n (pc' := 573) dL_law_572 rfl rfl ?_
  refine e_scr (pc' := 574) dL_law_573 rfl rfl ?_
  refine e_iload_n (pc' := 575) dL_law_574 rfl rfl ?_
  refine e_iconst (pc' := 576) dL_law_575 rfl ?_
  refine e_iadd (pc' := 577) dL_law_576 rfl ?_
  refine e_sld (pc' := 578) dL_law_577 rfl (by omega) (by omega) (by omega) ?_
  refine e_scr (pc' := 579) dL_law_578 rfl rfl ?_
  refine e_iload_n (pc' := 580) dL_law_579 rfl rfl ?_
  refine e_iconst (pc' := 581) dL_law_580 rfl ?_
  refine e_iadd (pc' := 582) dL_law_581 rfl ?_
  refine e_sld (pc' := 583) dL_law_582 rfl (by omega) (by omega) (by omega) ?_
  refine e_cv2i (pc' := 586) dL_law_583 rfl k_12_82 h_0 rfl (Nat.le_of_ble_eq_true rfl) rfl rfl ⟨rfl, rfl⟩ ⟨by decide, by decide⟩ (p_gain h _ _ (i32_rg _) (i32_rg _)) ?_
  intro r1 σ1 h1
  refine e_aload_n (pc' := 587) dL_law_586 rfl rfl ?_
  refine e_scr (pc' := 588) dL_law_587 rfl rfl ?_
  refine e_iload_n (pc' := 589) dL_law_588 rfl rfl ?_
  refine e_iconst (pc' := 590) dL_law_589 rfl ?_
  refine e_iadd (pc' := 591) dL_law_590 rfl ?_
  refine e_sld (pc' := 592) dL_law_591 rfl (by omega) (by omega) (by omega) ?_
  refine e_scr (pc' := 593) dL_law_592 rfl rfl ?_
  refine e_iload_n (pc' := 594) dL_law_593 rfl rfl ?_
  refine e_iconst (pc' := 595) dL_law_594 rfl ?_
  refine e_iadd (pc' := 596) dL_law_595 rfl ?_
  refine e_sld (pc' := 597) dL_law_596 rfl (by omega) (by omega) (by omega) ?_
  refine e_cv2i (pc' := 600) dL_law_597 rfl k_12_85 h_88 rfl (Nat.le_of_ble_eq_true rfl) rfl rfl ⟨rfl, rfl⟩ ⟨by decide, by decide⟩ h1 ?_
  rintro r2 σ2 ⟨e, hI⟩
  subst e
  exact e_icmp (pc' := 603) (t := 787) dL_law_600 (by decide) rfl (fun _ => K _ hI) (fun q => absurd q (by rw [tst_rf]; decide))
set_option maxHeartbeats 4000000 in
set_option maxRecDepth 100000 in
theorem law_c17 {X : AX} {σ : SG} {Q : Option AV → SG → Prop} (hn : X.1 < 2147483648) (i : Int) (h0 : 0 ≤ i) (h5 : i + 5 ≤ X.1) (h : INV σ) (K : ∀ τ, INV τ → Ev X 108 5241 10 mL_law 787 [some (sv 2), some (rv 0), some (rv 88), some (iv i)] [] τ Q) : Ev X 108 5241 10 mL_law 605 [some (sv 2), some (rv 0), some (rv 88), some (iv i)] [] σ Q := by
  refine e_aload_n (pc' := 606) dL_law_605 rfl rfl ?_
  refine e_scr (pc' := 607) dL_law_606 rfl rfl ?_
  refine e_iload_n (pc' := 608) dL_law_607 rfl rfl ?_
  refine e_iconst (pc' := 609) dL_law_608 rfl ?_
  refine e_iadd (pc' := 610) dL_law_609 rfl ?_
  refine e_sld (pc' := 611) dL_law_610 rfl (by omega) (by omega) (by omega) ?_
  refine e_scr (pc' := 612) dL_law_611 rfl rfl ?_
  refine e_iload_n (pc' := 613) dL_law_612 rfl rfl ?_
  refine e_iconst (pc' := 614) dL_law_613 rfl ?_
  refine e_iadd (pc' := 615) dL_law_614 rfl ?_
  refine e_sld (pc' := 616) dL_law_615 rfl (by omega) (by omega) (by omega) ?_
  refine e_cv2i (pc' := 619) dL_law_616 rfl k_12_86 h_0 rfl (Nat.le_of_ble_eq_true rfl) rfl rfl ⟨rfl, rfl⟩ ⟨by decide, by decide⟩ (p_hand h _ _ (i32_rg _) (i32_rg _)) ?_
  intro r1 σ1 h1
  refine e_aload_n (pc' := 620) dL_law_619 rfl rfl ?_
  refine e_scr (pc' := 621) dL_law_620 rfl rfl ?_
  refine e_iload_n (pc' := 622) dL_law_621 rfl rfl ?_
  refine e_iconst (pc' := 623) dL_law_622 rfl ?_
  refine e_iadd (pc' := 624) dL_law_623 rfl ?_
  refine e_sld (pc' := 625) dL_law_624 rfl (by omega) (by omega) (by omega) ?_
  refine e_scr (pc' := 626) dL_law_625 rfl rfl ?_
  refine e_iload_n (pc' := 627) dL_law_626 rfl rfl ?_
  refine e_iconst (pc' := 628) dL_law_627 rfl ?_
  refine e_iadd (pc' := 629) dL_law_628 rfl ?_
  refine e_sld (pc' := 630) dL_law_629 rfl (by omega) (by omega) (by omega) ?_
  refine e_cv2i (pc' := 633) dL_law_630 rfl k_12_89 h_88 rfl (Nat.le_of_ble_eq_true rfl) rfl rfl ⟨rfl, rfl⟩ ⟨by decide, by decide⟩ h1 ?_
  rintro r2 σ2 ⟨e, hI⟩
  subst e
  exact e_icmp (pc' := 636) (t := 787) dL_law_633 (by decide) rfl (fun _ => K _ hI) (fun q => absurd q (by rw [tst_rf]; decide))
set_option maxHeartbeats 4000000 in
set_option maxRecDepth 100000 in
theorem law_c18 {X : AX} {σ : SG} {Q : Option AV → SG → Prop} (hn : X.1 < 2147483648) (i : Int) (h0 : 0 ≤ i) (h5 : i + 5 ≤ X.1) (h : INV σ) (K : ∀ τ, INV τ → Ev X 108 5241 10 mL_law 787 [some (sv 2), some (rv 0), some (rv 88), some (iv i)] [] τ Q) : Ev X 108 5241 10 mL_law 638 [some (sv 2), some (rv 0), some (rv 88), some (iv i)] [] σ Q := by
  refine e_aload_n (pc' := 639) dL_law_638 rfl rfl ?_
  refine e_scr (pc' := 640) dL_law_639 rfl rfl ?_
  refine e_iload_n (pc' := 641) dL_law_640 rfl rfl ?_
  refine e_iconst (pc' := 642) dL_law_641 rfl ?_
  refine e_iadd (pc' := 643) dL_law_642 rfl ?_
  refine e_sld (pc' := 644) dL_law_643 rfl (by omega) (by omega) (by omega) ?_
  refine e_cv1i (pc' := 647) dL_law_644 rfl k_12_90 h_0 rfl (Nat.le_of_ble_eq_true rfl) rfl rfl ⟨rfl, rfl⟩ ⟨by decide, by decide⟩ (p_anyway h _ (i32_rg _)) ?_
  intro r1 σ1 h1
  refine e_aload_n (pc' := 648) dL_law_647 rfl rfl ?_
  refine e_scr (pc' := 649) dL_law_648 rfl rfl ?_
  refine e_iload_n (pc' := 650) dL_law_649 rfl rfl ?_
  refine e_iconst (pc' := 651) dL_law_650 rfl ?_
  refine e_iadd (pc' := 652) dL_law_651 rfl ?_
  refine e_sld (pc' := 653) dL_law_652 rfl (by omega) (by omega) (by omega) ?_
  refine e_cv1i (pc' := 656) dL_law_653 rfl k_12_93 h_88 rfl (Nat.le_of_ble_eq_true rfl) rfl rfl ⟨rfl, rfl⟩ ⟨by decide, by decide⟩ h1 ?_
  rintro r2 σ2 ⟨e, hI⟩
  subst e
  exact e_icmp (pc' := 659) (t := 787) dL_law_656 (by decide) rfl (fun _ => K _ hI) (fun q => absurd q (by rw [tst_rf]; decide))
set_option maxHeartbeats 4000000 in
set_option maxRecDepth 100000 in
theorem law_c19 {X : AX} {σ : SG} {Q : Option AV → SG → Prop} (hn : X.1 < 2147483648) (i : Int) (h0 : 0 ≤ i) (h5 : i + 5 ≤ X.1) (h : INV σ) (K : ∀ τ, INV τ → Ev X 108 5241 10 mL_law 787 [some (sv 2), some (rv 0), some (rv 88), some (iv i)] [] τ Q) : Ev X 108 5241 10 mL_law 661 [some (sv 2), some (rv 0), some (rv 88), some (iv i)] [] σ Q := by
  refine e_aload_n (pc' := 662) dL_law_661 rfl rfl ?_
  refine e_scr (pc' := 663) dL_law_662 rfl rfl ?_
  refine e_iload_n (pc' := 664) dL_law_663 rfl rfl ?_
  refine e_iconst (pc' := 665) dL_law_664 rfl ?_
  refine e_iadd (pc' := 666) dL_law_665 rfl ?_
  refine e_sld (pc' := 667) dL_law_666 rfl (by omega) (by omega) (by omega) ?_
  refine e_scr (pc' := 668) dL_law_667 rfl rfl ?_
  refine e_iload_n (pc' := 669) dL_law_668 rfl rfl ?_
  refine e_iconst (pc' := 670) dL_law_669 rfl ?_
  refine e_iadd (pc' := 671) dL_law_670 rfl ?_
  refine e_sld (pc' := 672) dL_law_671 rfl (by omega) (by omega) (by omega) ?_
  refine e_scr (pc' := 673) dL_law_672 rfl rfl ?_
  refine e_iload_n (pc' := 674) dL_law_673 rfl rfl ?_
  refine e_iconst (pc' := 675) dL_law_674 rfl ?_
  refine e_iadd (pc' := 676) dL_law_675 rfl ?_
  refine e_sld (pc' := 677) dL_law_676 rfl (by omega) (by omega) (by omega) ?_
  refine e_cv3i (pc' := 680) dL_law_677 rfl k_12_94 h_0 rfl (Nat.le_of_ble_eq_true rfl) rfl rfl ⟨rfl, rfl⟩ ⟨by decide, by decide⟩ (p_breach h _ _ _ (i32_rg _) (i32_rg _) (i32_rg _)) ?_
  intro r1 σ1 h1
  refine e_aload_n (pc' := 681) dL_law_680 rfl rfl ?_
  refine e_scr (pc' := 682) dL_law_681 rfl rfl ?_
  refine e_iload_n (pc' := 683) dL_law_682 rfl rfl ?_
  refine e_iconst (pc' := 684) dL_law_683 rfl ?_
  refine e_iadd (pc' := 685) dL_law_684 rfl ?_
  refine e_sld (pc' := 686) dL_law_685 rfl (by omega) (by omega) (by omega) ?_
  refine e_scr (pc' := 687) dL_law_686 rfl rfl ?_
  refine e_iload_n (pc' := 688) dL_law_687 rfl rfl ?_
  refine e_iconst (pc' := 689) dL_law_688 rfl ?_
  refine e_iadd (pc' := 690) dL_law_689 rfl ?_
  refine e_sld (pc' := 691) dL_law_690 rfl (by omega) (by omega) (by omega) ?_
  refine e_scr (pc' := 692) dL_law_691 rfl rfl ?_
  refine e_iload_n (pc' := 693) dL_law_692 rfl rfl ?_
  refine e_iconst (pc' := 694) dL_law_693 rfl ?_
  refine e_iadd (pc' := 695) dL_law_694 rfl ?_
  refine e_sld (pc' := 696) dL_law_695 rfl (by omega) (by omega) (by omega) ?_
  refine e_cv3i (pc' := 699) dL_law_696 rfl k_12_97 h_88 rfl (Nat.le_of_ble_eq_true rfl) rfl rfl ⟨rfl, rfl⟩ ⟨by decide, by decide⟩ h1 ?_
  rintro r2 σ2 ⟨e, hI⟩
  subst e
  exact e_icmp (pc' := 702) (t := 787) dL_law_699 (by decide) rfl (fun _ => K _ hI) (fun q => absurd q (by rw [tst_rf]; decide))
set_option maxHeartbeats 4000000 in
set_option maxRecDepth 100000 in
theorem law_c20 {X : AX} {σ : SG} {Q : Option AV → SG → Prop} (hn : X.1 < 2147483648) (i : Int) (h0 : 0 ≤ i) (h5 : i + 5 ≤ X.1) (h : INV σ) (K : ∀ τ, INV τ → Ev X 108 5241 10 mL_law 787 [some (sv 2), some (rv 0), some (rv 88), some (iv i)] [] τ Q) : Ev X 108 5241 10 mL_law 704 [some (sv 2), some (rv 0), some (rv 88), some (iv i)] [] σ Q := by
  refine e_aload_n (pc' := 705) dL_law_704 rfl rfl ?_
  refine e_scr (pc' := 706) dL_law_705 rfl rfl ?_
  refine e_iload_n (pc' := 707) dL_law_706 rfl rfl ?_
  refine e_iconst (pc' := 708) dL_law_707 rfl ?_
  refine e_iadd (pc' := 709) dL_law_708 rfl ?_
  refine e_sld (pc' := 710) dL_law_709 rfl (by omega) (by omega) (by omega) ?_
  refine e_cv1i (pc' := 713) dL_law_710 rfl k_12_98 h_0 rfl (Nat.le_of_ble_eq_true rfl) rfl rfl ⟨rfl, rfl⟩ ⟨by decide, by decide⟩ (p_image h _ (i32_rg _)) ?_
  intro r1 σ1 h1
  refine e_aload_n (pc' := 714) dL_law_713 rfl rfl ?_
  refine e_scr (pc' := 715) dL_law_714 rfl rfl ?_
  refine e_iload_n (pc' := 716) dL_law_715 rfl rfl ?_
  refine e_iconst (pc' := 717) dL_law_716 rfl ?_
  refine e_iadd (pc' := 718) dL_law_717 rfl ?_
  refine e_sld (pc' := 719) dL_law_718 rfl (by omega) (by omega) (by omega) ?_
  refine e_cv1i (pc' := 722) dL_law_719 rfl k_12_101 h_88 rfl (Nat.le_of_ble_eq_true rfl) rfl rfl ⟨rfl, rfl⟩ ⟨by decide, by decide⟩ h1 ?_
  rintro r2 σ2 ⟨e, hI⟩
  subst e
  exact e_icmp (pc' := 725) (t := 787) dL_law_722 (by decide) rfl (fun _ => K _ hI) (fun q => absurd q (by rw [tst_rf]; decide))
set_option maxHeartbeats 4000000 in
set_option maxRecDepth 100000 in
theorem law_c21 {X : AX} {σ : SG} {Q : Option AV → SG → Prop} (hn : X.1 < 2147483648) (i : Int) (h0 : 0 ≤ i) (h5 : i + 5 ≤ X.1) (h : INV σ) (K : ∀ τ, INV τ → Ev X 108 5241 10 mL_law 787 [some (sv 2), some (rv 0), some (rv 88), some (iv i)] [] τ Q) : Ev X 108 5241 10 mL_law 727 [some (sv 2), some (rv 0), some (rv 88), some (iv i)] [] σ Q := by
  refine e_aload_n (pc' := 728) dL_law_727 rfl rfl ?_
  refine e_scr (pc' := 729) dL_law_728 rfl rfl ?_
  refine e_iload_n (pc' := 730) dL_law_729 rfl rfl ?_
  refine e_iconst (pc' := 731) dL_law_730 rfl ?_
  refine e_iadd (pc' := 732) dL_law_731 rfl ?_
  refine e_sld (pc' := 733) dL_law_732 rfl (by omega) (by omega) (by omega) ?_
  refine e_cv1i (pc' := 736) dL_law_733 rfl k_12_102 h_0 rfl (Nat.le_of_ble_eq_true rfl) rfl rfl ⟨rfl, rfl⟩ ⟨by decide, by decide⟩ (p_from h _ (i32_rg _)) ?_
  intro r1 σ1 h1
  refine e_aload_n (pc' := 737) dL_law_736 rfl rfl ?_
  refine e_scr (pc' := 738) dL_law_737 rfl rfl ?_
  refine e_iload_n (pc' := 739) dL_law_738 rfl rfl ?_
  refine e_iconst (pc' := 740) dL_law_739 rfl ?_
  refine e_iadd (pc' := 741) dL_law_740 rfl ?_
  refine e_sld (pc' := 742) dL_law_741 rfl (by omega) (by omega) (by omega) ?_
  refine e_cv1i (pc' := 745) dL_law_742 rfl k_12_105 h_88 rfl (Nat.le_of_ble_eq_true rfl) rfl rfl ⟨rfl, rfl⟩ ⟨by decide, by decide⟩ h1 ?_
  rintro r2 σ2 ⟨e, hI⟩
  subst e
  exact e_icmp (pc' := 748) (t := 787) dL_law_745 (by decide) rfl (fun _ => K _ hI) (fun q => absurd q (by rw [tst_rf]; decide))
set_option maxHeartbeats 4000000 in
set_option maxRecDepth 100000 in
theorem law_c22 {X : AX} {σ : SG} {Q : Option AV → SG → Prop} (hn : X.1 < 2147483648) (i : Int) (h0 : 0 ≤ i) (h5 : i + 5 ≤ X.1) (h : INV σ) (K : ∀ τ, INV τ → Ev X 108 5241 10 mL_law 787 [some (sv 2), some (rv 0), some (rv 88), some (iv i)] [] τ Q) : Ev X 108 5241 10 mL_law 750 [some (sv 2), some (rv 0), some (rv 88), some (iv i)] [] σ Q := by
  refine e_aload_n (pc' := 751) dL_law_750 rfl rfl ?_
  refine e_scr (pc' := 752) dL_law_751 rfl rfl ?_
  refine e_iload_n (pc' := 753) dL_law_752 rfl rfl ?_
  refine e_iconst (pc' := 754) dL_law_753 rfl ?_
  refine e_iadd (pc' := 755) dL_law_754 rfl ?_
  refine e_sld (pc' := 756) dL_law_755 rfl (by omega) (by omega) (by omega) ?_
  refine e_cv1i (pc' := 759) dL_law_756 rfl k_12_106 h_0 rfl (Nat.le_of_ble_eq_true rfl) rfl rfl ⟨rfl, rfl⟩ ⟨by decide, by decide⟩ (p_count h _ (i32_rg _)) ?_
  intro r1 σ1 h1
  refine e_aload_n (pc' := 760) dL_law_759 rfl rfl ?_
  refine e_scr (pc' := 761) dL_law_760 rfl rfl ?_
  refine e_iload_n (pc' := 762) dL_law_761 rfl rfl ?_
  refine e_iconst (pc' := 763) dL_law_762 rfl ?_
  refine e_iadd (pc' := 764) dL_law_763 rfl ?_
  refine e_sld (pc' := 765) dL_law_764 rfl (by omega) (by omega) (by omega) ?_
  refine e_cv1i (pc' := 768) dL_law_765 rfl k_12_109 h_88 rfl (Nat.le_of_ble_eq_true rfl) rfl rfl ⟨rfl, rfl⟩ ⟨by decide, by decide⟩ h1 ?_
  rintro r2 σ2 ⟨e, hI⟩
  subst e
  exact e_icmp (pc' := 771) (t := 787) dL_law_768 (by decide) rfl (fun _ => K _ hI) (fun q => absurd q (by rw [tst_rf]; decide))
set_option maxHeartbeats 4000000 in
set_option maxRecDepth 100000 in
theorem law_c23 {X : AX} {σ : SG} {Q : Option AV → SG → Prop} (hn : X.1 < 2147483648) (i : Int) (h0 : 0 ≤ i) (h5 : i + 5 ≤ X.1) (h : INV σ) (K : ∀ τ, INV τ → Ev X 108 5241 10 mL_law 787 [some (sv 2), some (rv 0), some (rv 88), some (iv i)] [] τ Q) : Ev X 108 5241 10 mL_law 773 [some (sv 2), some (rv 0), some (rv 88), some (iv i)] [] σ Q := by
  refine e_aload_n (pc' := 774) dL_law_773 rfl rfl ?_
  refine e_cv0j (pc' := 777) dL_law_774 rfl k_12_110 h_0 rfl (Nat.le_of_ble_eq_true rfl) rfl rfl ⟨rfl, rfl⟩ ⟨by decide, by decide⟩ (p_digest h) ?_
  intro r1 σ1 h1
  refine e_aload_n (pc' := 778) dL_law_777 rfl rfl ?_
  refine e_cv0j (pc' := 781) dL_law_778 rfl k_12_114 h_88 rfl (Nat.le_of_ble_eq_true rfl) rfl rfl ⟨rfl, rfl⟩ ⟨by decide, by decide⟩ h1 ?_
  rintro r2 σ2 ⟨e, hI⟩
  subst e
  refine e_lcmp (pc' := 782) dL_law_781 rfl ?_
  exact e_ifJ (pc' := 785) (t := 787) dL_law_782 (by decide) rfl (fun _ => K _ hI) (fun q => absurd rfl q)
theorem law_sw {X : AX} {σ : SG} {Q : Option AV → SG → Prop} (hn : X.1 < 2147483648) (i : Int) (h0 : 0 ≤ i) (h5 : i + 5 ≤ X.1) (h : INV σ) (v : Int) (hv : rg v) (K : ∀ τ, INV τ → Ev X 108 5241 10 mL_law 787 [some (sv 2), some (rv 0), some (rv 88), some (iv i)] [] τ Q) : Ev X 108 5241 10 mL_law 32 [some (sv 2), some (rv 0), some (rv 88), some (iv i)] [iv v] σ Q := by
  by_cases k0 : v = 0
  · exact e_table (pc' := 144) (off := 112) dL_law_32 hv (by rw [k0]; rfl) (by decide) (law_c0 hn i h0 h5 h K)
  by_cases k1 : v = 1
  · exact e_table (pc' := 167) (off := 135) dL_law_32 hv (by rw [k1]; rfl) (by decide) (law_c1 hn i h0 h5 h K)
  by_cases k2 : v = 2
  · exact e_table (pc' := 190) (off := 158) dL_law_32 hv (by rw [k2]; rfl) (by decide) (law_c2 hn i h0 h5 h K)
  by_cases k3 : v = 3
  · exact e_table (pc' := 243) (off := 211) dL_law_32 hv (by rw [k3]; rfl) (by decide) (law_c3 hn i h0 h5 h K)
  by_cases k4 : v = 4
  · exact e_table (pc' := 276) (off := 244) dL_law_32 hv (by rw [k4]; rfl) (by decide) (law_c4 hn i h0 h5 h K)
  by_cases k5 : v = 5
  · exact e_table (pc' := 309) (off := 277) dL_law_32 hv (by rw [k5]; rfl) (by decide) (law_c5 hn i h0 h5 h K)
  by_cases k6 : v = 6
  · exact e_table (pc' := 332) (off := 300) dL_law_32 hv (by rw [k6]; rfl) (by decide) (law_c6 hn i h0 h5 h K)
  by_cases k7 : v = 7
  · exact e_table (pc' := 355) (off := 323) dL_law_32 hv (by rw [k7]; rfl) (by decide) (law_c7 hn i h0 h5 h K)
  by_cases k8 : v = 8
  · exact e_table (pc' := 398) (off := 366) dL_law_32 hv (by rw [k8]; rfl) (by decide) (law_c8 hn i h0 h5 h K)
  by_cases k9 : v = 9
  · exact e_table (pc' := 431) (off := 399) dL_law_32 hv (by rw [k9]; rfl) (by decide) (law_c9 hn i h0 h5 h K)
  by_cases k10 : v = 10
  · exact e_table (pc' := 444) (off := 412) dL_law_32 hv (by rw [k10]; rfl) (by decide) (law_c10 hn i h0 h5 h K)
  by_cases k11 : v = 11
  · exact e_table (pc' := 467) (off := 435) dL_law_32 hv (by rw [k11]; rfl) (by decide) (law_c11 hn i h0 h5 h K)
  by_cases k12 : v = 12
  · exact e_table (pc' := 500) (off := 468) dL_law_32 hv (by rw [k12]; rfl) (by decide) (law_c12 hn i h0 h5 h K)
  by_cases k13 : v = 13
  · exact e_table (pc' := 523) (off := 491) dL_law_32 hv (by rw [k13]; rfl) (by decide) (law_c13 hn i h0 h5 h K)
  by_cases k14 : v = 14
  · exact e_table (pc' := 536) (off := 504) dL_law_32 hv (by rw [k14]; rfl) (by decide) (law_c14 hn i h0 h5 h K)
  by_cases k15 : v = 15
  · exact e_table (pc' := 559) (off := 527) dL_law_32 hv (by rw [k15]; rfl) (by decide) (law_c15 hn i h0 h5 h K)
  by_cases k16 : v = 16
  · exact e_table (pc' := 572) (off := 540) dL_law_32 hv (by rw [k16]; rfl) (by decide) (law_c16 hn i h0 h5 h K)
  by_cases k17 : v = 17
  · exact e_table (pc' := 605) (off := 573) dL_law_32 hv (by rw [k17]; rfl) (by decide) (law_c17 hn i h0 h5 h K)
  by_cases k18 : v = 18
  · exact e_table (pc' := 638) (off := 606) dL_law_32 hv (by rw [k18]; rfl) (by decide) (law_c18 hn i h0 h5 h K)
  by_cases k19 : v = 19
  · exact e_table (pc' := 661) (off := 629) dL_law_32 hv (by rw [k19]; rfl) (by decide) (law_c19 hn i h0 h5 h K)
  by_cases k20 : v = 20
  · exact e_table (pc' := 704) (off := 672) dL_law_32 hv (by rw [k20]; rfl) (by decide) (law_c20 hn i h0 h5 h K)
  by_cases k21 : v = 21
  · exact e_table (pc' := 727) (off := 695) dL_law_32 hv (by rw [k21]; rfl) (by decide) (law_c21 hn i h0 h5 h K)
  by_cases k22 : v = 22
  · exact e_table (pc' := 750) (off := 718) dL_law_32 hv (by rw [k22]; rfl) (by decide) (law_c22 hn i h0 h5 h K)
  by_cases k23 : v = 23
  · exact e_table (pc' := 773) (off := 741) dL_law_32 hv (by rw [k23]; rfl) (by decide) (law_c23 hn i h0 h5 h K)
  exact e_table (pc' := 787) (off := 755) dL_law_32 hv (by rw [if_pos (by omega)]) (by decide) (K _ h)

theorem law_loop {X : AX} (hX : X.1 ≤ 2560) : ∀ (n : Nat) (i : Int) (σ : SG), 0 ≤ i → i ≤ 2560 → (X.1 : Int) < i + 5 * (n : Int) + 5 → INV σ → Ev X 108 5241 10 mL_law 18 [some (sv 2), some (rv 0), some (rv 88), some (iv i)] [] σ (fun v _ => v = some (iv 1)) := by
  intro n
  induction n with
  | zero =>
    intro i σ h0 h1 h2 h
    refine e_iload_n (pc' := 19) dL_law_18 rfl rfl ?_
    refine e_scr (pc' := 20) dL_law_19 rfl rfl ?_
    refine e_slen (pc' := 21) dL_law_20 rfl (by omega) ?_
    refine e_iconst (pc' := 22) dL_law_21 rfl ?_
    refine e_isub (pc' := 23) dL_law_22 rfl ?_
    refine e_icmpI (pc' := 26) (t := 793) dL_law_23 (by decide) rfl ⟨by omega, by omega⟩ ⟨by omega, by omega⟩ (fun _ => ?_) (fun q => absurd (show (X.1 : Int) - 5 < i by omega) q)
    refine e_iconst (pc' := 794) dL_law_793 rfl ?_
    exact e_zret dL_law_794 rfl (by decide) ⟨rfl, by decide⟩ rfl
  | succ n ih =>
    intro i σ h0 h1 h2 h
    refine e_iload_n (pc' := 19) dL_law_18 rfl rfl ?_
    refine e_scr (pc' := 20) dL_law_19 rfl rfl ?_
    refine e_slen (pc' := 21) dL_law_20 rfl (by omega) ?_
    refine e_iconst (pc' := 22) dL_law_21 rfl ?_
    refine e_isub (pc' := 23) dL_law_22 rfl ?_
    refine e_icmpI (pc' := 26) (t := 793) dL_law_23 (by decide) rfl ⟨by omega, by omega⟩ ⟨by omega, by omega⟩ (fun _ => ?_) (fun (q : ¬ ((X.1 : Int) - 5 < i)) => ?_)
    · refine e_iconst (pc' := 794) dL_law_793 rfl ?_
      exact e_zret dL_law_794 rfl (by decide) ⟨rfl, by decide⟩ rfl
    · refine e_scr (pc' := 27) dL_law_26 rfl rfl ?_
      refine e_iload_n (pc' := 28) dL_law_27 rfl rfl ?_
      refine e_sld (pc' := 29) dL_law_28 rfl (by omega) (by omega) (by omega) ?_
      refine e_bipush (pc' := 31) (z := 31) dL_law_29 rfl (by decide) ?_
      refine e_iand (pc' := 32) dL_law_31 rfl ?_
      refine law_sw (by omega) i h0 (by omega) h _ (i32_rg _) (fun τ hτ => ?_)
      refine e_iinc (pc' := 790) (L' := [some (sv 2), some (rv 0), some (rv 88), some (iv (i + 5))]) dL_law_787 rfl rfl (by decide) rfl ?_
      refine e_goto (pc' := 18) dL_law_790 (by decide) ?_
      exact ih (i + 5) τ (by omega) (by omega) (by omega) hτ
