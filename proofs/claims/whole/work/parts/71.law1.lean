/-! The law's cases. -/
set_option maxRecDepth 100000 in
set_option maxHeartbeats 400000 in
theorem xl_write (P : xw_T) {X : xf_C} {b N j : Nat} {xs : Nat → Int32} {σ τ : xf_T} (hN : N ≤ 3074) (hj : j + 6 ≤ N) (hX : xf_ok X (xw_l P) xnR_LW xnc_LW_law 4 11 400 (xw_W P) (xw_D P) (xw_ty P)) (hB : xl_scr X b N xs) (hR : xr_R (xw_n P) (xw_w P) σ τ) (next : ∀ σ' τ' : xf_T, xr_R (xw_n P) (xw_w P) σ' τ' → xf_V X 550 [some (.ref b), some (.ref (xw_a P 0)), some (.ref (xw_a P 100)), some (.int (nI j))] [] (σ', τ')) : xf_V X 132 [some (.ref b), some (.ref (xw_a P 0)), some (.ref (xw_a P 100)), some (.int (nI j))] [] (σ, τ) := by
  refine xf_aload_n hX 133 rfl 1 xnd_LW_law_132 rfl rfl ?_
  refine xf_aload_n hX 134 rfl 0 xnd_LW_law_133 rfl rfl ?_
  refine xf_iload_n hX 135 rfl 3 xnd_LW_law_134 rfl rfl ?_
  refine xf_iconst hX 136 rfl (1) xnd_LW_law_135 (by decide) ?_
  refine xf_iadd hX 137 rfl xnd_LW_law_136 ?_
  refine xf_sld hX hB 138 rfl (j + 1) (nI_add j 1) (by omega) (by omega) xnd_LW_law_137 ?_
  refine xf_aload_n hX 139 rfl 0 xnd_LW_law_138 rfl rfl ?_
  refine xf_iload_n hX 140 rfl 3 xnd_LW_law_139 rfl rfl ?_
  refine xf_iconst hX 141 rfl (2) xnd_LW_law_140 (by decide) ?_
  refine xf_iadd hX 142 rfl xnd_LW_law_141 ?_
  refine xf_sld hX hB 143 rfl (j + 2) (nI_add j 2) (by omega) (by omega) xnd_LW_law_142 ?_
  refine xf_aload_n hX 144 rfl 0 xnd_LW_law_143 rfl rfl ?_
  refine xf_iload_n hX 145 rfl 3 xnd_LW_law_144 rfl rfl ?_
  refine xf_iconst hX 146 rfl (3) xnd_LW_law_145 (by decide) ?_
  refine xf_iadd hX 147 rfl xnd_LW_law_146 ?_
  refine xf_sld hX hB 148 rfl (j + 3) (nI_add j 3) (by omega) (by omega) xnd_LW_law_147 ?_
  refine xf_aload_n hX 149 rfl 0 xnd_LW_law_148 rfl rfl ?_
  refine xf_iload_n hX 150 rfl 3 xnd_LW_law_149 rfl rfl ?_
  refine xf_iconst hX 151 rfl (4) xnd_LW_law_150 (by decide) ?_
  refine xf_iadd hX 152 rfl xnd_LW_law_151 ?_
  refine xf_sld hX hB 153 rfl (j + 4) (nI_add j 4) (by omega) (by omega) xnd_LW_law_152 ?_
  refine xf_aload_n hX 154 rfl 0 xnd_LW_law_153 rfl rfl ?_
  refine xf_iload_n hX 155 rfl 3 xnd_LW_law_154 rfl rfl ?_
  refine xf_iconst hX 156 rfl (5) xnd_LW_law_155 (by decide) ?_
  refine xf_iadd hX 157 rfl xnd_LW_law_156 ?_
  refine xf_sld hX hB 158 rfl (j + 5) (nI_add j 5) (by omega) (by omega) xnd_LW_law_157 ?_
  refine xf_V5i hX 161 rfl (xc_write P σ τ (xs (j + 1)) (xs (j + 2)) (xs (j + 3)) (xs (j + 4)) (xs (j + 5))) xq_SC_write xk_LW_21 xrX_SC rfl rfl xnd_LW_law_158 ?_
  refine xf_aload_n hX 162 rfl 2 xnd_LW_law_161 rfl rfl ?_
  refine xf_aload_n hX 163 rfl 0 xnd_LW_law_162 rfl rfl ?_
  refine xf_iload_n hX 164 rfl 3 xnd_LW_law_163 rfl rfl ?_
  refine xf_iconst hX 165 rfl (1) xnd_LW_law_164 (by decide) ?_
  refine xf_iadd hX 166 rfl xnd_LW_law_165 ?_
  refine xf_sld hX hB 167 rfl (j + 1) (nI_add j 1) (by omega) (by omega) xnd_LW_law_166 ?_
  refine xf_aload_n hX 168 rfl 0 xnd_LW_law_167 rfl rfl ?_
  refine xf_iload_n hX 169 rfl 3 xnd_LW_law_168 rfl rfl ?_
  refine xf_iconst hX 170 rfl (2) xnd_LW_law_169 (by decide) ?_
  refine xf_iadd hX 171 rfl xnd_LW_law_170 ?_
  refine xf_sld hX hB 172 rfl (j + 2) (nI_add j 2) (by omega) (by omega) xnd_LW_law_171 ?_
  refine xf_aload_n hX 173 rfl 0 xnd_LW_law_172 rfl rfl ?_
  refine xf_iload_n hX 174 rfl 3 xnd_LW_law_173 rfl rfl ?_
  refine xf_iconst hX 175 rfl (3) xnd_LW_law_174 (by decide) ?_
  refine xf_iadd hX 176 rfl xnd_LW_law_175 ?_
  refine xf_sld hX hB 177 rfl (j + 3) (nI_add j 3) (by omega) (by omega) xnd_LW_law_176 ?_
  refine xf_aload_n hX 178 rfl 0 xnd_LW_law_177 rfl rfl ?_
  refine xf_iload_n hX 179 rfl 3 xnd_LW_law_178 rfl rfl ?_
  refine xf_iconst hX 180 rfl (4) xnd_LW_law_179 (by decide) ?_
  refine xf_iadd hX 181 rfl xnd_LW_law_180 ?_
  refine xf_sld hX hB 182 rfl (j + 4) (nI_add j 4) (by omega) (by omega) xnd_LW_law_181 ?_
  refine xf_aload_n hX 183 rfl 0 xnd_LW_law_182 rfl rfl ?_
  refine xf_iload_n hX 184 rfl 3 xnd_LW_law_183 rfl rfl ?_
  refine xf_iconst hX 185 rfl (5) xnd_LW_law_184 (by decide) ?_
  refine xf_iadd hX 186 rfl xnd_LW_law_185 ?_
  refine xf_sld hX hB 187 rfl (j + 5) (nI_add j 5) (by omega) (by omega) xnd_LW_law_186 ?_
  refine xf_V5i hX 190 rfl (xm_cwrite P (xs_write σ (xs (j + 1)) (xs (j + 2)) (xs (j + 3)) (xs (j + 4)) (xs (j + 5))) τ (xs (j + 1)) (xs (j + 2)) (xs (j + 3)) (xs (j + 4)) (xs (j + 5))) xq_MO_write xk_LW_25 xrM_MO rfl rfl xnd_LW_law_187 ?_
  refine xf_icmp_eq hX 193 rfl 550 xnd_LW_law_190 (by decide) (fun _ => ?_) (fun h => absurd ((xr_wOK hR (xs (j + 1)) (xs (j + 4))).symm) h)
  exact next _ _ (xr_write hR (xs (j + 1)) (xs (j + 2)) (xs (j + 3)) (xs (j + 4)) (xs (j + 5)))
set_option maxRecDepth 100000 in
set_option maxHeartbeats 400000 in
theorem xl_work (P : xw_T) {X : xf_C} {b N j : Nat} {xs : Nat → Int32} {σ τ : xf_T} (hN : N ≤ 3074) (hj : j + 6 ≤ N) (hX : xf_ok X (xw_l P) xnR_LW xnc_LW_law 4 11 400 (xw_W P) (xw_D P) (xw_ty P)) (hB : xl_scr X b N xs) (hR : xr_R (xw_n P) (xw_w P) σ τ) (next : ∀ σ' τ' : xf_T, xr_R (xw_n P) (xw_w P) σ' τ' → xf_V X 550 [some (.ref b), some (.ref (xw_a P 0)), some (.ref (xw_a P 100)), some (.int (nI j))] [] (σ', τ')) : xf_V X 195 [some (.ref b), some (.ref (xw_a P 0)), some (.ref (xw_a P 100)), some (.int (nI j))] [] (σ, τ) := by
  refine xf_aload_n hX 196 rfl 1 xnd_LW_law_195 rfl rfl ?_
  refine xf_aload_n hX 197 rfl 0 xnd_LW_law_196 rfl rfl ?_
  refine xf_iload_n hX 198 rfl 3 xnd_LW_law_197 rfl rfl ?_
  refine xf_iconst hX 199 rfl (1) xnd_LW_law_198 (by decide) ?_
  refine xf_iadd hX 200 rfl xnd_LW_law_199 ?_
  refine xf_sld hX hB 201 rfl (j + 1) (nI_add j 1) (by omega) (by omega) xnd_LW_law_200 ?_
  refine xf_V1i hX 204 rfl (xc_work P σ τ (xs (j + 1)) (fun s => ∃ t, xr_R (xw_n P) (xw_w P) s t) ⟨τ, hR⟩ (fun s hs h9 => by obtain ⟨t, ht⟩ := hs; exact ⟨(ht.okW h9).1, _, xr_goOn ht h9⟩)) xq_SC_work xk_LW_26 xrX_SC rfl rfl xnd_LW_law_201 ?_
  refine xf_aload_n hX 205 rfl 2 xnd_LW_law_204 rfl rfl ?_
  refine xf_aload_n hX 206 rfl 0 xnd_LW_law_205 rfl rfl ?_
  refine xf_iload_n hX 207 rfl 3 xnd_LW_law_206 rfl rfl ?_
  refine xf_iconst hX 208 rfl (1) xnd_LW_law_207 (by decide) ?_
  refine xf_iadd hX 209 rfl xnd_LW_law_208 ?_
  refine xf_sld hX hB 210 rfl (j + 1) (nI_add j 1) (by omega) (by omega) xnd_LW_law_209 ?_
  refine xf_V1i hX 213 rfl (xm_cwork P _ τ (xs (j + 1)) (fun t => ∃ s, xr_R (xw_n P) (xw_w P) s t) ⟨σ, hR⟩ (fun t hs h3 => by obtain ⟨s, hs⟩ := hs; have h9 : s.1 9 = 0 := Decidable.byContradiction (fun z => h3 (hs.under.2 z)); exact ⟨(hs.okW h9).2, _, xr_goOn hs h9⟩)) xq_MO_work xk_LW_30 xrM_MO rfl rfl xnd_LW_law_210 ?_
  refine xf_icmp_eq hX 216 rfl 550 xnd_LW_law_213 (by decide) (fun _ => ?_) (fun h => absurd ((xr_wk hR (xs (j + 1))).1.symm) h)
  exact next _ _ (xr_wk hR (xs (j + 1))).2
set_option maxRecDepth 100000 in
set_option maxHeartbeats 400000 in
theorem xl_outcome (P : xw_T) {X : xf_C} {b N j : Nat} {xs : Nat → Int32} {σ τ : xf_T} (hN : N ≤ 3074) (hj : j + 6 ≤ N) (hX : xf_ok X (xw_l P) xnR_LW xnc_LW_law 4 11 400 (xw_W P) (xw_D P) (xw_ty P)) (hB : xl_scr X b N xs) (hR : xr_R (xw_n P) (xw_w P) σ τ) (next : ∀ σ' τ' : xf_T, xr_R (xw_n P) (xw_w P) σ' τ' → xf_V X 550 [some (.ref b), some (.ref (xw_a P 0)), some (.ref (xw_a P 100)), some (.int (nI j))] [] (σ', τ')) : xf_V X 218 [some (.ref b), some (.ref (xw_a P 0)), some (.ref (xw_a P 100)), some (.int (nI j))] [] (σ, τ) := by
  refine xf_aload_n hX 219 rfl 1 xnd_LW_law_218 rfl rfl ?_
  refine xf_V0i hX 222 rfl (xc_outcome P σ τ) xq_SC_outcome xk_LW_31 xrX_SC rfl rfl xnd_LW_law_219 ?_
  refine xf_aload_n hX 223 rfl 2 xnd_LW_law_222 rfl rfl ?_
  refine xf_V0i hX 226 rfl (xm_cout P σ τ) xq_MO_outcome xk_LW_35 xrM_MO rfl rfl xnd_LW_law_223 ?_
  refine xf_icmp_eq hX 229 rfl 550 xnd_LW_law_226 (by decide) (fun _ => ?_) (fun h => absurd ((xr_outcome hR).symm) h)
  exact next _ _ hR
set_option maxRecDepth 100000 in
set_option maxHeartbeats 400000 in
theorem xl_get (P : xw_T) {X : xf_C} {b N j : Nat} {xs : Nat → Int32} {σ τ : xf_T} (hN : N ≤ 3074) (hj : j + 6 ≤ N) (hX : xf_ok X (xw_l P) xnR_LW xnc_LW_law 4 11 400 (xw_W P) (xw_D P) (xw_ty P)) (hB : xl_scr X b N xs) (hR : xr_R (xw_n P) (xw_w P) σ τ) (next : ∀ σ' τ' : xf_T, xr_R (xw_n P) (xw_w P) σ' τ' → xf_V X 550 [some (.ref b), some (.ref (xw_a P 0)), some (.ref (xw_a P 100)), some (.int (nI j))] [] (σ', τ')) : xf_V X 231 [some (.ref b), some (.ref (xw_a P 0)), some (.ref (xw_a P 100)), some (.int (nI j))] [] (σ, τ) := by
  refine xf_aload_n hX 232 rfl 1 xnd_LW_law_231 rfl rfl ?_
  refine xf_aload_n hX 233 rfl 0 xnd_LW_law_232 rfl rfl ?_
  refine xf_iload_n hX 234 rfl 3 xnd_LW_law_233 rfl rfl ?_
  refine xf_iconst hX 235 rfl (1) xnd_LW_law_234 (by decide) ?_
  refine xf_iadd hX 236 rfl xnd_LW_law_235 ?_
  refine xf_sld hX hB 237 rfl (j + 1) (nI_add j 1) (by omega) (by omega) xnd_LW_law_236 ?_
  refine xf_aload_n hX 238 rfl 0 xnd_LW_law_237 rfl rfl ?_
  refine xf_iload_n hX 239 rfl 3 xnd_LW_law_238 rfl rfl ?_
  refine xf_iconst hX 240 rfl (2) xnd_LW_law_239 (by decide) ?_
  refine xf_iadd hX 241 rfl xnd_LW_law_240 ?_
  refine xf_sld hX hB 242 rfl (j + 2) (nI_add j 2) (by omega) (by omega) xnd_LW_law_241 ?_
  refine xf_V2i hX 245 rfl (xc_get P σ τ (xs (j + 1)) (xs (j + 2))) xq_SC_get xk_LW_36 xrX_SC rfl rfl xnd_LW_law_242 ?_
  refine xf_aload_n hX 246 rfl 2 xnd_LW_law_245 rfl rfl ?_
  refine xf_aload_n hX 247 rfl 0 xnd_LW_law_246 rfl rfl ?_
  refine xf_iload_n hX 248 rfl 3 xnd_LW_law_247 rfl rfl ?_
  refine xf_iconst hX 249 rfl (1) xnd_LW_law_248 (by decide) ?_
  refine xf_iadd hX 250 rfl xnd_LW_law_249 ?_
  refine xf_sld hX hB 251 rfl (j + 1) (nI_add j 1) (by omega) (by omega) xnd_LW_law_250 ?_
  refine xf_aload_n hX 252 rfl 0 xnd_LW_law_251 rfl rfl ?_
  refine xf_iload_n hX 253 rfl 3 xnd_LW_law_252 rfl rfl ?_
  refine xf_iconst hX 254 rfl (2) xnd_LW_law_253 (by decide) ?_
  refine xf_iadd hX 255 rfl xnd_LW_law_254 ?_
  refine xf_sld hX hB 256 rfl (j + 2) (nI_add j 2) (by omega) (by omega) xnd_LW_law_255 ?_
  refine xf_V2i hX 259 rfl (xm_cget P _ τ (xs (j + 1)) (xs (j + 2))) xq_MO_get xk_LW_40 xrM_MO rfl rfl xnd_LW_law_256 ?_
  refine xf_icmp_eq hX 262 rfl 550 xnd_LW_law_259 (by decide) (fun _ => ?_) (fun h => absurd ((xr_getB hR (xs (j + 1))).symm) h)
  exact next _ _ (xr_get hR (xs (j + 1)) (xs (j + 2)))
set_option maxRecDepth 100000 in
set_option maxHeartbeats 400000 in
theorem xl_step (P : xw_T) {X : xf_C} {b N j : Nat} {xs : Nat → Int32} {σ τ : xf_T} (hN : N ≤ 3074) (hj : j + 6 ≤ N) (hX : xf_ok X (xw_l P) xnR_LW xnc_LW_law 4 11 400 (xw_W P) (xw_D P) (xw_ty P)) (hB : xl_scr X b N xs) (hR : xr_R (xw_n P) (xw_w P) σ τ) (next : ∀ σ' τ' : xf_T, xr_R (xw_n P) (xw_w P) σ' τ' → xf_V X 550 [some (.ref b), some (.ref (xw_a P 0)), some (.ref (xw_a P 100)), some (.int (nI j))] [] (σ', τ')) : xf_V X 264 [some (.ref b), some (.ref (xw_a P 0)), some (.ref (xw_a P 100)), some (.int (nI j))] [] (σ, τ) := by
  refine xf_aload_n hX 265 rfl 1 xnd_LW_law_264 rfl rfl ?_
  refine xf_aload_n hX 266 rfl 0 xnd_LW_law_265 rfl rfl ?_
  refine xf_iload_n hX 267 rfl 3 xnd_LW_law_266 rfl rfl ?_
  refine xf_iconst hX 268 rfl (1) xnd_LW_law_267 (by decide) ?_
  refine xf_iadd hX 269 rfl xnd_LW_law_268 ?_
  refine xf_sld hX hB 270 rfl (j + 1) (nI_add j 1) (by omega) (by omega) xnd_LW_law_269 ?_
  refine xf_V1i hX 273 rfl (xc_step P σ τ (xs (j + 1)) (fun q hq => (hR.okR hq).1)) xq_SC_step xk_LW_41 xrX_SC rfl rfl xnd_LW_law_270 ?_
  refine xf_aload_n hX 274 rfl 2 xnd_LW_law_273 rfl rfl ?_
  refine xf_aload_n hX 275 rfl 0 xnd_LW_law_274 rfl rfl ?_
  refine xf_iload_n hX 276 rfl 3 xnd_LW_law_275 rfl rfl ?_
  refine xf_iconst hX 277 rfl (1) xnd_LW_law_276 (by decide) ?_
  refine xf_iadd hX 278 rfl xnd_LW_law_277 ?_
  refine xf_sld hX hB 279 rfl (j + 1) (nI_add j 1) (by omega) (by omega) xnd_LW_law_278 ?_
  refine xf_V1i hX 282 rfl (xm_cstep P _ τ (xs (j + 1)) (fun q hq => (hR.okR hq).2)) xq_MO_step xk_LW_44 xrM_MO rfl rfl xnd_LW_law_279 ?_
  refine xf_icmp_eq hX 285 rfl 550 xnd_LW_law_282 (by decide) (fun _ => ?_) (fun h => absurd ((xr_step hR (xs (j + 1))).1.symm) h)
  exact next _ _ (xr_step hR (xs (j + 1))).2
