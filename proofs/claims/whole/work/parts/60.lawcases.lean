theorem Rel.c5 {g : AG} (h : Rel g) : 0 ≤ g 1 5 ∧ g 1 5 ≤ 100 := by
  obtain ⟨⟨E1, E2, -⟩, -⟩ := h
  have E1 : 0 ≤ g 1 4 ∧ g 1 4 ≤ 100 := E1
  have E2 : g 1 5 = cntB (g 5) (g 1 4).toNat := E2
  have q := cntB_b (g 5) (g 1 4).toNat
  omega
theorem and31 (w : Int32) : i3 ((w &&& 31).toInt) = i3 w.toInt &&& i3 31 := by
  rw [i3_of, i3_of]
  rfl
def lwK : KT := fun r _ _ ce sl _ => r = some 1 ∧ ce ≤ 38 ∧ sl ≤ 31875
set_option maxHeartbeats 4000000 in
set_option maxRecDepth 100000 in
theorem lc_sheet {b n : Nat} {xs : Nat → Int32} {K : KT} {J : JT} {q : Nat → Nat} {g : AG} {i : Int} (C : JRL b n xs K J) (hq : q 1000 = b) (hn : n ≤ 2048) (h0 : 0 ≤ i) (h1 : i + 3 < n) (hR : Rel g) (kk : ∀ g', Rel g' → J q ShW 38 31875 796 [some (.inr 1000), some (.inr 0), some (.inr 21), some (.inl i)] [] g') : J q ShW 38 31875 144 [some (.inr 1000), some (.inr 0), some (.inr 21), some (.inl i)] [] g := by
  have CJ := C.jr
  refine j_aload_n CJ dL_law_144 rfl ?_
  refine j_aload_n CJ dL_law_145 rfl ?_
  refine j_iload_n CJ dL_law_146 rfl ?_
  refine j_iconst CJ dL_law_147 ?_
  refine j_iadd CJ dL_law_148 ?_
  refine j_sld C hq (by omega) dL_law_149 (by omega) (by omega) ?_
  refine j_callVi1 CJ vL_law_13 rfl rfl (Nat.le_of_ble_eq_true rfl) ⟨by decide, by decide⟩ dL_law_150 (ct_X4_sheet (aR_of _)) (fun x g1 k1 => ?_)
  refine j_aload_n CJ dL_law_153 rfl ?_
  refine j_aload_n CJ dL_law_154 rfl ?_
  refine j_iload_n CJ dL_law_155 rfl ?_
  refine j_iconst CJ dL_law_156 ?_
  refine j_iadd CJ dL_law_157 ?_
  refine j_sld C hq (by omega) dL_law_158 (by omega) (by omega) ?_
  have hM : RM g1 := hR.rm (cm_sheet k1)
  refine j_callVi1 CJ vL_law_17 rfl rfl (Nat.le_of_ble_eq_true rfl) ⟨by decide, by decide⟩ dL_law_159 (ct_X5_sheet (aR_of _)) (fun y g2 k2 => ?_)
  have hS := st_sheet hR k1 k2
  exact j_icmp_ee CJ dL_law_162 (by decide) hS.1 (kk g2 hS.2)
set_option maxHeartbeats 4000000 in
set_option maxRecDepth 100000 in
theorem lc_read {b n : Nat} {xs : Nat → Int32} {K : KT} {J : JT} {q : Nat → Nat} {g : AG} {i : Int} (C : JRL b n xs K J) (hq : q 1000 = b) (hn : n ≤ 2048) (h0 : 0 ≤ i) (h1 : i + 3 < n) (hR : Rel g) (kk : ∀ g', Rel g' → J q ShW 38 31875 796 [some (.inr 1000), some (.inr 0), some (.inr 21), some (.inl i)] [] g') : J q ShW 38 31875 167 [some (.inr 1000), some (.inr 0), some (.inr 21), some (.inl i)] [] g := by
  have CJ := C.jr
  refine j_aload_n CJ dL_law_167 rfl ?_
  refine j_aload_n CJ dL_law_168 rfl ?_
  refine j_iload_n CJ dL_law_169 rfl ?_
  refine j_iconst CJ dL_law_170 ?_
  refine j_iadd CJ dL_law_171 ?_
  refine j_sld C hq (by omega) dL_law_172 (by omega) (by omega) ?_
  refine j_aload_n CJ dL_law_173 rfl ?_
  refine j_iload_n CJ dL_law_174 rfl ?_
  refine j_iconst CJ dL_law_175 ?_
  refine j_iadd CJ dL_law_176 ?_
  refine j_sld C hq (by omega) dL_law_177 (by omega) (by omega) ?_
  refine j_aload_n CJ dL_law_178 rfl ?_
  refine j_iload_n CJ dL_law_179 rfl ?_
  refine j_iconst CJ dL_law_180 ?_
  refine j_iadd CJ dL_law_181 ?_
  refine j_sld C hq (by omega) dL_law_182 (by omega) (by omega) ?_
  refine j_callVi3 CJ vL_law_18 rfl rfl (Nat.le_of_ble_eq_true rfl) ⟨by decide, by decide⟩ dL_law_183 (ct_X4_read ⟨aR_of _, aR_of _, aR_of _, hR.lx.1.1, hR.lx.1.2, hR.1.1.1, hR.1.1.2, hR.c5.1, hR.c5.2⟩) (fun x g1 k1 => ?_)
  refine j_aload_n CJ dL_law_186 rfl ?_
  refine j_aload_n CJ dL_law_187 rfl ?_
  refine j_iload_n CJ dL_law_188 rfl ?_
  refine j_iconst CJ dL_law_189 ?_
  refine j_iadd CJ dL_law_190 ?_
  refine j_sld C hq (by omega) dL_law_191 (by omega) (by omega) ?_
  refine j_aload_n CJ dL_law_192 rfl ?_
  refine j_iload_n CJ dL_law_193 rfl ?_
  refine j_iconst CJ dL_law_194 ?_
  refine j_iadd CJ dL_law_195 ?_
  refine j_sld C hq (by omega) dL_law_196 (by omega) (by omega) ?_
  refine j_aload_n CJ dL_law_197 rfl ?_
  refine j_iload_n CJ dL_law_198 rfl ?_
  refine j_iconst CJ dL_law_199 ?_
  refine j_iadd CJ dL_law_200 ?_
  refine j_sld C hq (by omega) dL_law_201 (by omega) (by omega) ?_
  have hM : RM g1 := hR.rm (cm_read k1)
  refine j_callVi3 CJ vL_law_22 rfl rfl (Nat.le_of_ble_eq_true rfl) ⟨by decide, by decide⟩ dL_law_202 (ct_X5_read ⟨aR_of _, aR_of _, aR_of _, hM.1.1.1, hM.1.1.2, hM.2.2.2.1.1, hM.2.2.2.1.2⟩) (fun y g2 k2 => ?_)
  have hS := st_read hR k1 k2
  exact j_icmp_ee CJ dL_law_205 (by decide) hS.1 (kk g2 hS.2)
set_option maxHeartbeats 4000000 in
set_option maxRecDepth 100000 in
theorem lc_reading {b n : Nat} {xs : Nat → Int32} {K : KT} {J : JT} {q : Nat → Nat} {g : AG} {i : Int} (C : JRL b n xs K J) (hq : q 1000 = b) (hn : n ≤ 2048) (h0 : 0 ≤ i) (h1 : i + 3 < n) (hR : Rel g) (kk : ∀ g', Rel g' → J q ShW 38 31875 796 [some (.inr 1000), some (.inr 0), some (.inr 21), some (.inl i)] [] g') : J q ShW 38 31875 210 [some (.inr 1000), some (.inr 0), some (.inr 21), some (.inl i)] [] g := by
  have CJ := C.jr
  refine j_aload_n CJ dL_law_210 rfl ?_
  refine j_aload_n CJ dL_law_211 rfl ?_
  refine j_iload_n CJ dL_law_212 rfl ?_
  refine j_iconst CJ dL_law_213 ?_
  refine j_iadd CJ dL_law_214 ?_
  refine j_sld C hq (by omega) dL_law_215 (by omega) (by omega) ?_
  refine j_aload_n CJ dL_law_216 rfl ?_
  refine j_iload_n CJ dL_law_217 rfl ?_
  refine j_iconst CJ dL_law_218 ?_
  refine j_iadd CJ dL_law_219 ?_
  refine j_sld C hq (by omega) dL_law_220 (by omega) (by omega) ?_
  refine j_callVi2 CJ vL_law_23 rfl rfl (Nat.le_of_ble_eq_true rfl) ⟨by decide, by decide⟩ dL_law_221 (ct_X4_reading ⟨aR_of _, aR_of _, hR.1.1.1, hR.1.1.2, hR.1.2.2.1⟩) (fun x g1 k1 => ?_)
  refine j_aload_n CJ dL_law_224 rfl ?_
  refine j_aload_n CJ dL_law_225 rfl ?_
  refine j_iload_n CJ dL_law_226 rfl ?_
  refine j_iconst CJ dL_law_227 ?_
  refine j_iadd CJ dL_law_228 ?_
  refine j_sld C hq (by omega) dL_law_229 (by omega) (by omega) ?_
  refine j_aload_n CJ dL_law_230 rfl ?_
  refine j_iload_n CJ dL_law_231 rfl ?_
  refine j_iconst CJ dL_law_232 ?_
  refine j_iadd CJ dL_law_233 ?_
  refine j_sld C hq (by omega) dL_law_234 (by omega) (by omega) ?_
  have hM : RM g1 := hR.rm (cm_reading k1)
  refine j_callVi2 CJ vL_law_27 rfl rfl (Nat.le_of_ble_eq_true rfl) ⟨by decide, by decide⟩ dL_law_235 (ct_X5_reading ⟨aR_of _, aR_of _, hM.2.2.2.1.1, hM.2.2.2.1.2, hM.2.2.2.2⟩) (fun y g2 k2 => ?_)
  have hS := st_reading hR k1 k2
  exact j_icmp_ee CJ dL_law_238 (by decide) hS.1 (kk g2 hS.2)
set_option maxHeartbeats 4000000 in
set_option maxRecDepth 100000 in
theorem lc_across {b n : Nat} {xs : Nat → Int32} {K : KT} {J : JT} {q : Nat → Nat} {g : AG} {i : Int} (C : JRL b n xs K J) (hq : q 1000 = b) (hn : n ≤ 2048) (h0 : 0 ≤ i) (h1 : i + 3 < n) (hR : Rel g) (kk : ∀ g', Rel g' → J q ShW 38 31875 796 [some (.inr 1000), some (.inr 0), some (.inr 21), some (.inl i)] [] g') : J q ShW 38 31875 243 [some (.inr 1000), some (.inr 0), some (.inr 21), some (.inl i)] [] g := by
  have CJ := C.jr
  refine j_aload_n CJ dL_law_243 rfl ?_
  refine j_aload_n CJ dL_law_244 rfl ?_
  refine j_iload_n CJ dL_law_245 rfl ?_
  refine j_iconst CJ dL_law_246 ?_
  refine j_iadd CJ dL_law_247 ?_
  refine j_sld C hq (by omega) dL_law_248 (by omega) (by omega) ?_
  refine j_callVi1 CJ vL_law_28 rfl rfl (Nat.le_of_ble_eq_true rfl) ⟨by decide, by decide⟩ dL_law_249 (ct_X4_across ⟨aR_of _, hR.lx.1.1, hR.lx.1.2⟩) (fun x g1 k1 => ?_)
  refine j_aload_n CJ dL_law_252 rfl ?_
  refine j_aload_n CJ dL_law_253 rfl ?_
  refine j_iload_n CJ dL_law_254 rfl ?_
  refine j_iconst CJ dL_law_255 ?_
  refine j_iadd CJ dL_law_256 ?_
  refine j_sld C hq (by omega) dL_law_257 (by omega) (by omega) ?_
  have hM : RM g1 := hR.rm (cm_across k1)
  refine j_callVi1 CJ vL_law_31 rfl rfl (Nat.le_of_ble_eq_true rfl) ⟨by decide, by decide⟩ dL_law_258 (ct_X5_across ⟨aR_of _, hM.1.1.1, hM.1.1.2⟩) (fun y g2 k2 => ?_)
  have hS := st_across hR k1 k2
  exact j_icmp_ee CJ dL_law_261 (by decide) hS.1 (kk g2 hS.2)
set_option maxHeartbeats 4000000 in
set_option maxRecDepth 100000 in
theorem lc_along {b n : Nat} {xs : Nat → Int32} {K : KT} {J : JT} {q : Nat → Nat} {g : AG} {i : Int} (C : JRL b n xs K J) (hq : q 1000 = b) (hn : n ≤ 2048) (h0 : 0 ≤ i) (h1 : i + 3 < n) (hR : Rel g) (kk : ∀ g', Rel g' → J q ShW 38 31875 796 [some (.inr 1000), some (.inr 0), some (.inr 21), some (.inl i)] [] g') : J q ShW 38 31875 266 [some (.inr 1000), some (.inr 0), some (.inr 21), some (.inl i)] [] g := by
  have CJ := C.jr
  refine j_aload_n CJ dL_law_266 rfl ?_
  refine j_aload_n CJ dL_law_267 rfl ?_
  refine j_iload_n CJ dL_law_268 rfl ?_
  refine j_iconst CJ dL_law_269 ?_
  refine j_iadd CJ dL_law_270 ?_
  refine j_sld C hq (by omega) dL_law_271 (by omega) (by omega) ?_
  refine j_aload_n CJ dL_law_272 rfl ?_
  refine j_iload_n CJ dL_law_273 rfl ?_
  refine j_iconst CJ dL_law_274 ?_
  refine j_iadd CJ dL_law_275 ?_
  refine j_sld C hq (by omega) dL_law_276 (by omega) (by omega) ?_
  refine j_callVi2 CJ vL_law_32 rfl rfl (Nat.le_of_ble_eq_true rfl) ⟨by decide, by decide⟩ dL_law_277 (ct_X4_along ⟨aR_of _, aR_of _⟩) (fun x g1 k1 => ?_)
  refine j_aload_n CJ dL_law_280 rfl ?_
  refine j_aload_n CJ dL_law_281 rfl ?_
  refine j_iload_n CJ dL_law_282 rfl ?_
  refine j_iconst CJ dL_law_283 ?_
  refine j_iadd CJ dL_law_284 ?_
  refine j_sld C hq (by omega) dL_law_285 (by omega) (by omega) ?_
  refine j_aload_n CJ dL_law_286 rfl ?_
  refine j_iload_n CJ dL_law_287 rfl ?_
  refine j_iconst CJ dL_law_288 ?_
  refine j_iadd CJ dL_law_289 ?_
  refine j_sld C hq (by omega) dL_law_290 (by omega) (by omega) ?_
  have hM : RM g1 := hR.rm (cm_along k1)
  refine j_callVi2 CJ vL_law_35 rfl rfl (Nat.le_of_ble_eq_true rfl) ⟨by decide, by decide⟩ dL_law_291 (ct_X5_along ⟨aR_of _, aR_of _⟩) (fun y g2 k2 => ?_)
  have hS := st_along hR k1 k2
  exact j_icmp_ee CJ dL_law_294 (by decide) hS.1 (kk g2 hS.2)
set_option maxHeartbeats 4000000 in
set_option maxRecDepth 100000 in
theorem lc_groups {b n : Nat} {xs : Nat → Int32} {K : KT} {J : JT} {q : Nat → Nat} {g : AG} {i : Int} (C : JRL b n xs K J) (hq : q 1000 = b) (hn : n ≤ 2048) (h0 : 0 ≤ i) (h1 : i + 3 < n) (hR : Rel g) (kk : ∀ g', Rel g' → J q ShW 38 31875 796 [some (.inr 1000), some (.inr 0), some (.inr 21), some (.inl i)] [] g') : J q ShW 38 31875 299 [some (.inr 1000), some (.inr 0), some (.inr 21), some (.inl i)] [] g := by
  have CJ := C.jr
  refine j_aload_n CJ dL_law_299 rfl ?_
  refine j_callVi0 CJ vL_law_36 rfl rfl (Nat.le_of_ble_eq_true rfl) ⟨by decide, by decide⟩ dL_law_300 (ct_X4_groups ⟨hR.lx.1.1, hR.lx.1.2⟩) (fun x g1 k1 => ?_)
  refine j_aload_n CJ dL_law_303 rfl ?_
  have hM : RM g1 := hR.rm (cm_groups k1)
  refine j_callVi0 CJ vL_law_40 rfl rfl (Nat.le_of_ble_eq_true rfl) ⟨by decide, by decide⟩ dL_law_304 (ct_X5_groups ⟨hM.1.1.1, hM.1.1.2⟩) (fun y g2 k2 => ?_)
  have hS := st_groups hR k1 k2
  exact j_icmp_ee CJ dL_law_307 (by decide) hS.1 (kk g2 hS.2)
set_option maxHeartbeats 4000000 in
set_option maxRecDepth 100000 in
theorem lc_take {b n : Nat} {xs : Nat → Int32} {K : KT} {J : JT} {q : Nat → Nat} {g : AG} {i : Int} (C : JRL b n xs K J) (hq : q 1000 = b) (hn : n ≤ 2048) (h0 : 0 ≤ i) (h1 : i + 3 < n) (hR : Rel g) (kk : ∀ g', Rel g' → J q ShW 38 31875 796 [some (.inr 1000), some (.inr 0), some (.inr 21), some (.inl i)] [] g') : J q ShW 38 31875 312 [some (.inr 1000), some (.inr 0), some (.inr 21), some (.inl i)] [] g := by
  have CJ := C.jr
  refine j_aload_n CJ dL_law_312 rfl ?_
  refine j_callVi0 CJ vL_law_41 rfl rfl (Nat.le_of_ble_eq_true rfl) ⟨by decide, by decide⟩ dL_law_313 (ct_X4_take ⟨hR.lx.1.1, hR.lx.1.2⟩) (fun x g1 k1 => ?_)
  refine j_aload_n CJ dL_law_316 rfl ?_
  have hM : RM g1 := hR.rm (cm_take k1)
  refine j_callVi0 CJ vL_law_44 rfl rfl (Nat.le_of_ble_eq_true rfl) ⟨by decide, by decide⟩ dL_law_317 (ct_X5_take ⟨hM.1.1.1, hM.1.1.2⟩) (fun y g2 k2 => ?_)
  have hS := st_take hR k1 k2
  exact j_icmp_ee CJ dL_law_320 (by decide) hS.1 (kk g2 hS.2)
set_option maxHeartbeats 4000000 in
set_option maxRecDepth 100000 in
theorem lc_clear {b n : Nat} {xs : Nat → Int32} {K : KT} {J : JT} {q : Nat → Nat} {g : AG} {i : Int} (C : JRL b n xs K J) (hq : q 1000 = b) (hn : n ≤ 2048) (h0 : 0 ≤ i) (h1 : i + 3 < n) (hR : Rel g) (kk : ∀ g', Rel g' → J q ShW 38 31875 796 [some (.inr 1000), some (.inr 0), some (.inr 21), some (.inl i)] [] g') : J q ShW 38 31875 325 [some (.inr 1000), some (.inr 0), some (.inr 21), some (.inl i)] [] g := by
  have CJ := C.jr
  refine j_aload_n CJ dL_law_325 rfl ?_
  refine j_callVi0 CJ vL_law_45 rfl rfl (Nat.le_of_ble_eq_true rfl) ⟨by decide, by decide⟩ dL_law_326 (ct_X4_clear) (fun x g1 k1 => ?_)
  refine j_aload_n CJ dL_law_329 rfl ?_
  have hM : RM g1 := hR.rm (cm_clear k1)
  refine j_callVi0 CJ vL_law_48 rfl rfl (Nat.le_of_ble_eq_true rfl) ⟨by decide, by decide⟩ dL_law_330 (ct_X5_clear) (fun y g2 k2 => ?_)
  have hS := st_clear hR k1 k2
  exact j_icmp_ee CJ dL_law_333 (by decide) hS.1 (kk g2 hS.2)
set_option maxHeartbeats 4000000 in
set_option maxRecDepth 100000 in
theorem lc_laws {b n : Nat} {xs : Nat → Int32} {K : KT} {J : JT} {q : Nat → Nat} {g : AG} {i : Int} (C : JRL b n xs K J) (hq : q 1000 = b) (hn : n ≤ 2048) (h0 : 0 ≤ i) (h1 : i + 3 < n) (hR : Rel g) (kk : ∀ g', Rel g' → J q ShW 38 31875 796 [some (.inr 1000), some (.inr 0), some (.inr 21), some (.inl i)] [] g') : J q ShW 38 31875 338 [some (.inr 1000), some (.inr 0), some (.inr 21), some (.inl i)] [] g := by
  have CJ := C.jr
  refine j_aload_n CJ dL_law_338 rfl ?_
  refine j_aload_n CJ dL_law_339 rfl ?_
  refine j_iload_n CJ dL_law_340 rfl ?_
  refine j_iconst CJ dL_law_341 ?_
  refine j_iadd CJ dL_law_342 ?_
  refine j_sld C hq (by omega) dL_law_343 (by omega) (by omega) ?_
  refine j_aload_n CJ dL_law_344 rfl ?_
  refine j_iload_n CJ dL_law_345 rfl ?_
  refine j_iconst CJ dL_law_346 ?_
  refine j_iadd CJ dL_law_347 ?_
  refine j_sld C hq (by omega) dL_law_348 (by omega) (by omega) ?_
  refine j_callVi2 CJ vL_law_49 rfl rfl (Nat.le_of_ble_eq_true rfl) ⟨by decide, by decide⟩ dL_law_349 (ct_X4_laws ⟨hR.lx, aR_of _, aR_of _⟩) (fun x g1 k1 => ?_)
  refine j_aload_n CJ dL_law_352 rfl ?_
  refine j_aload_n CJ dL_law_353 rfl ?_
  refine j_iload_n CJ dL_law_354 rfl ?_
  refine j_iconst CJ dL_law_355 ?_
  refine j_iadd CJ dL_law_356 ?_
  refine j_sld C hq (by omega) dL_law_357 (by omega) (by omega) ?_
  refine j_aload_n CJ dL_law_358 rfl ?_
  refine j_iload_n CJ dL_law_359 rfl ?_
  refine j_iconst CJ dL_law_360 ?_
  refine j_iadd CJ dL_law_361 ?_
  refine j_sld C hq (by omega) dL_law_362 (by omega) (by omega) ?_
  have hM : RM g1 := hR.rm (cm_laws k1)
  refine j_callVi2 CJ vL_law_52 rfl rfl (Nat.le_of_ble_eq_true rfl) ⟨by decide, by decide⟩ dL_law_363 (ct_X5_laws ⟨hM.1, aR_of _, aR_of _⟩) (fun y g2 k2 => ?_)
  have hS := st_laws hR k1 k2
  exact j_icmp_ee CJ dL_law_366 (by decide) hS.1 (kk g2 hS.2)
set_option maxHeartbeats 4000000 in
set_option maxRecDepth 100000 in
theorem lc_spread {b n : Nat} {xs : Nat → Int32} {K : KT} {J : JT} {q : Nat → Nat} {g : AG} {i : Int} (C : JRL b n xs K J) (hq : q 1000 = b) (hn : n ≤ 2048) (h0 : 0 ≤ i) (h1 : i + 3 < n) (hR : Rel g) (kk : ∀ g', Rel g' → J q ShW 38 31875 796 [some (.inr 1000), some (.inr 0), some (.inr 21), some (.inl i)] [] g') : J q ShW 38 31875 371 [some (.inr 1000), some (.inr 0), some (.inr 21), some (.inl i)] [] g := by
  have CJ := C.jr
  refine j_aload_n CJ dL_law_371 rfl ?_
  refine j_aload_n CJ dL_law_372 rfl ?_
  refine j_iload_n CJ dL_law_373 rfl ?_
  refine j_iconst CJ dL_law_374 ?_
  refine j_iadd CJ dL_law_375 ?_
  refine j_sld C hq (by omega) dL_law_376 (by omega) (by omega) ?_
  refine j_aload_n CJ dL_law_377 rfl ?_
  refine j_iload_n CJ dL_law_378 rfl ?_
  refine j_iconst CJ dL_law_379 ?_
  refine j_iadd CJ dL_law_380 ?_
  refine j_sld C hq (by omega) dL_law_381 (by omega) (by omega) ?_
  refine j_callVi2 CJ vL_law_53 rfl rfl (Nat.le_of_ble_eq_true rfl) ⟨by decide, by decide⟩ dL_law_382 (ct_X4_spread ⟨aR_of _, aR_of _⟩) (fun x g1 k1 => ?_)
  refine j_aload_n CJ dL_law_385 rfl ?_
  refine j_aload_n CJ dL_law_386 rfl ?_
  refine j_iload_n CJ dL_law_387 rfl ?_
  refine j_iconst CJ dL_law_388 ?_
  refine j_iadd CJ dL_law_389 ?_
  refine j_sld C hq (by omega) dL_law_390 (by omega) (by omega) ?_
  refine j_aload_n CJ dL_law_391 rfl ?_
  refine j_iload_n CJ dL_law_392 rfl ?_
  refine j_iconst CJ dL_law_393 ?_
  refine j_iadd CJ dL_law_394 ?_
  refine j_sld C hq (by omega) dL_law_395 (by omega) (by omega) ?_
  have hM : RM g1 := hR.rm (cm_spread k1)
  refine j_callVi2 CJ vL_law_56 rfl rfl (Nat.le_of_ble_eq_true rfl) ⟨by decide, by decide⟩ dL_law_396 (ct_X5_spread ⟨aR_of _, aR_of _⟩) (fun y g2 k2 => ?_)
  have hS := st_spread hR k1 k2
  exact j_icmp_ee CJ dL_law_399 (by decide) hS.1 (kk g2 hS.2)
set_option maxHeartbeats 4000000 in
set_option maxRecDepth 100000 in
theorem lc_base {b n : Nat} {xs : Nat → Int32} {K : KT} {J : JT} {q : Nat → Nat} {g : AG} {i : Int} (C : JRL b n xs K J) (hq : q 1000 = b) (hn : n ≤ 2048) (h0 : 0 ≤ i) (h1 : i + 3 < n) (hR : Rel g) (kk : ∀ g', Rel g' → J q ShW 38 31875 796 [some (.inr 1000), some (.inr 0), some (.inr 21), some (.inl i)] [] g') : J q ShW 38 31875 404 [some (.inr 1000), some (.inr 0), some (.inr 21), some (.inl i)] [] g := by
  have CJ := C.jr
  refine j_aload_n CJ dL_law_404 rfl ?_
  refine j_aload_n CJ dL_law_405 rfl ?_
  refine j_iload_n CJ dL_law_406 rfl ?_
  refine j_iconst CJ dL_law_407 ?_
  refine j_iadd CJ dL_law_408 ?_
  refine j_sld C hq (by omega) dL_law_409 (by omega) (by omega) ?_
  refine j_aload_n CJ dL_law_410 rfl ?_
  refine j_iload_n CJ dL_law_411 rfl ?_
  refine j_iconst CJ dL_law_412 ?_
  refine j_iadd CJ dL_law_413 ?_
  refine j_sld C hq (by omega) dL_law_414 (by omega) (by omega) ?_
  refine j_callVi2 CJ vL_law_57 rfl rfl (Nat.le_of_ble_eq_true rfl) ⟨by decide, by decide⟩ dL_law_415 (ct_X4_base ⟨aR_of _, aR_of _, hR.lx.1.1, hR.lx.1.2⟩) (fun x g1 k1 => ?_)
  refine j_aload_n CJ dL_law_418 rfl ?_
  refine j_aload_n CJ dL_law_419 rfl ?_
  refine j_iload_n CJ dL_law_420 rfl ?_
  refine j_iconst CJ dL_law_421 ?_
  refine j_iadd CJ dL_law_422 ?_
  refine j_sld C hq (by omega) dL_law_423 (by omega) (by omega) ?_
  refine j_aload_n CJ dL_law_424 rfl ?_
  refine j_iload_n CJ dL_law_425 rfl ?_
  refine j_iconst CJ dL_law_426 ?_
  refine j_iadd CJ dL_law_427 ?_
  refine j_sld C hq (by omega) dL_law_428 (by omega) (by omega) ?_
  have hM : RM g1 := hR.rm (cm_base k1)
  refine j_callVi2 CJ vL_law_60 rfl rfl (Nat.le_of_ble_eq_true rfl) ⟨by decide, by decide⟩ dL_law_429 (ct_X5_base ⟨aR_of _, aR_of _, hM.1.1.1, hM.1.1.2⟩) (fun y g2 k2 => ?_)
  have hS := st_base hR k1 k2
  exact j_icmp_ee CJ dL_law_432 (by decide) hS.1 (kk g2 hS.2)
set_option maxHeartbeats 4000000 in
set_option maxRecDepth 100000 in
theorem lc_set {b n : Nat} {xs : Nat → Int32} {K : KT} {J : JT} {q : Nat → Nat} {g : AG} {i : Int} (C : JRL b n xs K J) (hq : q 1000 = b) (hn : n ≤ 2048) (h0 : 0 ≤ i) (h1 : i + 3 < n) (hR : Rel g) (kk : ∀ g', Rel g' → J q ShW 38 31875 796 [some (.inr 1000), some (.inr 0), some (.inr 21), some (.inl i)] [] g') : J q ShW 38 31875 437 [some (.inr 1000), some (.inr 0), some (.inr 21), some (.inl i)] [] g := by
  have CJ := C.jr
  refine j_aload_n CJ dL_law_437 rfl ?_
  refine j_aload_n CJ dL_law_438 rfl ?_
  refine j_iload_n CJ dL_law_439 rfl ?_
  refine j_iconst CJ dL_law_440 ?_
  refine j_iadd CJ dL_law_441 ?_
  refine j_sld C hq (by omega) dL_law_442 (by omega) (by omega) ?_
  refine j_aload_n CJ dL_law_443 rfl ?_
  refine j_iload_n CJ dL_law_444 rfl ?_
  refine j_iconst CJ dL_law_445 ?_
  refine j_iadd CJ dL_law_446 ?_
  refine j_sld C hq (by omega) dL_law_447 (by omega) (by omega) ?_
  refine j_callVi2 CJ vL_law_61 rfl rfl (Nat.le_of_ble_eq_true rfl) ⟨by decide, by decide⟩ dL_law_448 (ct_X4_set ⟨hR.lx, aR_of _, aR_of _⟩) (fun x g1 k1 => ?_)
  refine j_aload_n CJ dL_law_451 rfl ?_
  refine j_aload_n CJ dL_law_452 rfl ?_
  refine j_iload_n CJ dL_law_453 rfl ?_
  refine j_iconst CJ dL_law_454 ?_
  refine j_iadd CJ dL_law_455 ?_
  refine j_sld C hq (by omega) dL_law_456 (by omega) (by omega) ?_
  refine j_aload_n CJ dL_law_457 rfl ?_
  refine j_iload_n CJ dL_law_458 rfl ?_
  refine j_iconst CJ dL_law_459 ?_
  refine j_iadd CJ dL_law_460 ?_
  refine j_sld C hq (by omega) dL_law_461 (by omega) (by omega) ?_
  have hM : RM g1 := hR.rm (cm_set k1)
  refine j_callVi2 CJ vL_law_64 rfl rfl (Nat.le_of_ble_eq_true rfl) ⟨by decide, by decide⟩ dL_law_462 (ct_X5_set ⟨hM.1, aR_of _, aR_of _⟩) (fun y g2 k2 => ?_)
  have hS := st_set hR k1 k2
  exact j_icmp_ee CJ dL_law_465 (by decide) hS.1 (kk g2 hS.2)
set_option maxHeartbeats 4000000 in
set_option maxRecDepth 100000 in
theorem lc_about {b n : Nat} {xs : Nat → Int32} {K : KT} {J : JT} {q : Nat → Nat} {g : AG} {i : Int} (C : JRL b n xs K J) (hq : q 1000 = b) (hn : n ≤ 2048) (h0 : 0 ≤ i) (h1 : i + 3 < n) (hR : Rel g) (kk : ∀ g', Rel g' → J q ShW 38 31875 796 [some (.inr 1000), some (.inr 0), some (.inr 21), some (.inl i)] [] g') : J q ShW 38 31875 470 [some (.inr 1000), some (.inr 0), some (.inr 21), some (.inl i)] [] g := by
  have CJ := C.jr
  refine j_aload_n CJ dL_law_470 rfl ?_
  refine j_aload_n CJ dL_law_471 rfl ?_
  refine j_iload_n CJ dL_law_472 rfl ?_
  refine j_iconst CJ dL_law_473 ?_
  refine j_iadd CJ dL_law_474 ?_
  refine j_sld C hq (by omega) dL_law_475 (by omega) (by omega) ?_
  refine j_aload_n CJ dL_law_476 rfl ?_
  refine j_iload_n CJ dL_law_477 rfl ?_
  refine j_iconst CJ dL_law_478 ?_
  refine j_iadd CJ dL_law_479 ?_
  refine j_sld C hq (by omega) dL_law_480 (by omega) (by omega) ?_
  refine j_callVi2 CJ vL_law_65 rfl rfl (Nat.le_of_ble_eq_true rfl) ⟨by decide, by decide⟩ dL_law_481 (ct_X4_about ⟨hR.lx, aR_of _, aR_of _⟩) (fun x g1 k1 => ?_)
  refine j_aload_n CJ dL_law_484 rfl ?_
  refine j_aload_n CJ dL_law_485 rfl ?_
  refine j_iload_n CJ dL_law_486 rfl ?_
  refine j_iconst CJ dL_law_487 ?_
  refine j_iadd CJ dL_law_488 ?_
  refine j_sld C hq (by omega) dL_law_489 (by omega) (by omega) ?_
  refine j_aload_n CJ dL_law_490 rfl ?_
  refine j_iload_n CJ dL_law_491 rfl ?_
  refine j_iconst CJ dL_law_492 ?_
  refine j_iadd CJ dL_law_493 ?_
  refine j_sld C hq (by omega) dL_law_494 (by omega) (by omega) ?_
  have hM : RM g1 := hR.rm (cm_about k1)
  refine j_callVi2 CJ vL_law_68 rfl rfl (Nat.le_of_ble_eq_true rfl) ⟨by decide, by decide⟩ dL_law_495 (ct_X5_about ⟨hM.1, aR_of _, aR_of _⟩) (fun y g2 k2 => ?_)
  have hS := st_about hR k1 k2
  exact j_icmp_ee CJ dL_law_498 (by decide) hS.1 (kk g2 hS.2)
set_option maxHeartbeats 4000000 in
set_option maxRecDepth 100000 in
theorem lc_uneven {b n : Nat} {xs : Nat → Int32} {K : KT} {J : JT} {q : Nat → Nat} {g : AG} {i : Int} (C : JRL b n xs K J) (hq : q 1000 = b) (hn : n ≤ 2048) (h0 : 0 ≤ i) (h1 : i + 3 < n) (hR : Rel g) (kk : ∀ g', Rel g' → J q ShW 38 31875 796 [some (.inr 1000), some (.inr 0), some (.inr 21), some (.inl i)] [] g') : J q ShW 38 31875 503 [some (.inr 1000), some (.inr 0), some (.inr 21), some (.inl i)] [] g := by
  have CJ := C.jr
  refine j_aload_n CJ dL_law_503 rfl ?_
  refine j_aload_n CJ dL_law_504 rfl ?_
  refine j_iload_n CJ dL_law_505 rfl ?_
  refine j_iconst CJ dL_law_506 ?_
  refine j_iadd CJ dL_law_507 ?_
  refine j_sld C hq (by omega) dL_law_508 (by omega) (by omega) ?_
  refine j_callVi1 CJ vL_law_69 rfl rfl (Nat.le_of_ble_eq_true rfl) ⟨by decide, by decide⟩ dL_law_509 (ct_X4_uneven ⟨hR.lx, aR_of _⟩) (fun x g1 k1 => ?_)
  refine j_aload_n CJ dL_law_512 rfl ?_
  refine j_aload_n CJ dL_law_513 rfl ?_
  refine j_iload_n CJ dL_law_514 rfl ?_
  refine j_iconst CJ dL_law_515 ?_
  refine j_iadd CJ dL_law_516 ?_
  refine j_sld C hq (by omega) dL_law_517 (by omega) (by omega) ?_
  have hM : RM g1 := hR.rm (cm_uneven k1)
  refine j_callVi1 CJ vL_law_72 rfl rfl (Nat.le_of_ble_eq_true rfl) ⟨by decide, by decide⟩ dL_law_518 (ct_X5_uneven ⟨hM.1, aR_of _⟩) (fun y g2 k2 => ?_)
  have hS := st_uneven hR k1 k2
  exact j_icmp_ee CJ dL_law_521 (by decide) hS.1 (kk g2 hS.2)
set_option maxHeartbeats 4000000 in
set_option maxRecDepth 100000 in
theorem lc_best {b n : Nat} {xs : Nat → Int32} {K : KT} {J : JT} {q : Nat → Nat} {g : AG} {i : Int} (C : JRL b n xs K J) (hq : q 1000 = b) (hn : n ≤ 2048) (h0 : 0 ≤ i) (h1 : i + 3 < n) (hR : Rel g) (kk : ∀ g', Rel g' → J q ShW 38 31875 796 [some (.inr 1000), some (.inr 0), some (.inr 21), some (.inl i)] [] g') : J q ShW 38 31875 526 [some (.inr 1000), some (.inr 0), some (.inr 21), some (.inl i)] [] g := by
  have CJ := C.jr
  refine j_aload_n CJ dL_law_526 rfl ?_
  refine j_aload_n CJ dL_law_527 rfl ?_
  refine j_iload_n CJ dL_law_528 rfl ?_
  refine j_iconst CJ dL_law_529 ?_
  refine j_iadd CJ dL_law_530 ?_
  refine j_sld C hq (by omega) dL_law_531 (by omega) (by omega) ?_
  refine j_callVi1 CJ vL_law_73 rfl rfl (Nat.le_of_ble_eq_true rfl) ⟨by decide, by decide⟩ dL_law_532 (ct_X4_best ⟨hR.lx, aR_of _⟩) (fun x g1 k1 => ?_)
  refine j_aload_n CJ dL_law_535 rfl ?_
  refine j_aload_n CJ dL_law_536 rfl ?_
  refine j_iload_n CJ dL_law_537 rfl ?_
  refine j_iconst CJ dL_law_538 ?_
  refine j_iadd CJ dL_law_539 ?_
  refine j_sld C hq (by omega) dL_law_540 (by omega) (by omega) ?_
  have hM : RM g1 := hR.rm (cm_best k1)
  refine j_callVi1 CJ vL_law_76 rfl rfl (Nat.le_of_ble_eq_true rfl) ⟨by decide, by decide⟩ dL_law_541 (ct_X5_best ⟨hM.1, aR_of _⟩) (fun y g2 k2 => ?_)
  have hS := st_best hR k1 k2
  exact j_icmp_ee CJ dL_law_544 (by decide) hS.1 (kk g2 hS.2)
set_option maxHeartbeats 4000000 in
set_option maxRecDepth 100000 in
theorem lc_kind {b n : Nat} {xs : Nat → Int32} {K : KT} {J : JT} {q : Nat → Nat} {g : AG} {i : Int} (C : JRL b n xs K J) (hq : q 1000 = b) (hn : n ≤ 2048) (h0 : 0 ≤ i) (h1 : i + 3 < n) (hR : Rel g) (kk : ∀ g', Rel g' → J q ShW 38 31875 796 [some (.inr 1000), some (.inr 0), some (.inr 21), some (.inl i)] [] g') : J q ShW 38 31875 549 [some (.inr 1000), some (.inr 0), some (.inr 21), some (.inl i)] [] g := by
  have CJ := C.jr
  refine j_aload_n CJ dL_law_549 rfl ?_
  refine j_aload_n CJ dL_law_550 rfl ?_
  refine j_iload_n CJ dL_law_551 rfl ?_
  refine j_iconst CJ dL_law_552 ?_
  refine j_iadd CJ dL_law_553 ?_
  refine j_sld C hq (by omega) dL_law_554 (by omega) (by omega) ?_
  refine j_aload_n CJ dL_law_555 rfl ?_
  refine j_iload_n CJ dL_law_556 rfl ?_
  refine j_iconst CJ dL_law_557 ?_
  refine j_iadd CJ dL_law_558 ?_
  refine j_sld C hq (by omega) dL_law_559 (by omega) (by omega) ?_
  refine j_aload_n CJ dL_law_560 rfl ?_
  refine j_iload_n CJ dL_law_561 rfl ?_
  refine j_iconst CJ dL_law_562 ?_
  refine j_iadd CJ dL_law_563 ?_
  refine j_sld C hq (by omega) dL_law_564 (by omega) (by omega) ?_
  refine j_callVi3 CJ vL_law_77 rfl rfl (Nat.le_of_ble_eq_true rfl) ⟨by decide, by decide⟩ dL_law_565 (ct_X4_kind ⟨aR_of _, aR_of _, aR_of _, hR.kx.1.1, hR.kx.1.2⟩) (fun x g1 k1 => ?_)
  refine j_aload_n CJ dL_law_568 rfl ?_
  refine j_aload_n CJ dL_law_569 rfl ?_
  refine j_iload_n CJ dL_law_570 rfl ?_
  refine j_iconst CJ dL_law_571 ?_
  refine j_iadd CJ dL_law_572 ?_
  refine j_sld C hq (by omega) dL_law_573 (by omega) (by omega) ?_
  refine j_aload_n CJ dL_law_574 rfl ?_
  refine j_iload_n CJ dL_law_575 rfl ?_
  refine j_iconst CJ dL_law_576 ?_
  refine j_iadd CJ dL_law_577 ?_
  refine j_sld C hq (by omega) dL_law_578 (by omega) (by omega) ?_
  refine j_aload_n CJ dL_law_579 rfl ?_
  refine j_iload_n CJ dL_law_580 rfl ?_
  refine j_iconst CJ dL_law_581 ?_
  refine j_iadd CJ dL_law_582 ?_
  refine j_sld C hq (by omega) dL_law_583 (by omega) (by omega) ?_
  have hM : RM g1 := hR.rm (cm_kind k1)
  refine j_callVi3 CJ vL_law_80 rfl rfl (Nat.le_of_ble_eq_true rfl) ⟨by decide, by decide⟩ dL_law_584 (ct_X5_kind ⟨aR_of _, aR_of _, aR_of _, hM.2.1.1.1, hM.2.1.1.2⟩) (fun y g2 k2 => ?_)
  have hS := st_kind hR k1 k2
  exact j_icmp_ee CJ dL_law_587 (by decide) hS.1 (kk g2 hS.2)
set_option maxHeartbeats 4000000 in
set_option maxRecDepth 100000 in
theorem lc_canLie {b n : Nat} {xs : Nat → Int32} {K : KT} {J : JT} {q : Nat → Nat} {g : AG} {i : Int} (C : JRL b n xs K J) (hq : q 1000 = b) (hn : n ≤ 2048) (h0 : 0 ≤ i) (h1 : i + 3 < n) (hR : Rel g) (kk : ∀ g', Rel g' → J q ShW 38 31875 796 [some (.inr 1000), some (.inr 0), some (.inr 21), some (.inl i)] [] g') : J q ShW 38 31875 592 [some (.inr 1000), some (.inr 0), some (.inr 21), some (.inl i)] [] g := by
  have CJ := C.jr
  refine j_aload_n CJ dL_law_592 rfl ?_
  refine j_aload_n CJ dL_law_593 rfl ?_
  refine j_iload_n CJ dL_law_594 rfl ?_
  refine j_iconst CJ dL_law_595 ?_
  refine j_iadd CJ dL_law_596 ?_
  refine j_sld C hq (by omega) dL_law_597 (by omega) (by omega) ?_
  refine j_aload_n CJ dL_law_598 rfl ?_
  refine j_iload_n CJ dL_law_599 rfl ?_
  refine j_iconst CJ dL_law_600 ?_
  refine j_iadd CJ dL_law_601 ?_
  refine j_sld C hq (by omega) dL_law_602 (by omega) (by omega) ?_
  refine j_callVi2 CJ vL_law_81 rfl rfl (Nat.le_of_ble_eq_true rfl) ⟨by decide, by decide⟩ dL_law_603 (ct_X4_canLie ⟨hR.lx, hR.kx, aR_of _, aR_of _⟩) (fun x g1 k1 => ?_)
  refine j_aload_n CJ dL_law_606 rfl ?_
  refine j_aload_n CJ dL_law_607 rfl ?_
  refine j_iload_n CJ dL_law_608 rfl ?_
  refine j_iconst CJ dL_law_609 ?_
  refine j_iadd CJ dL_law_610 ?_
  refine j_sld C hq (by omega) dL_law_611 (by omega) (by omega) ?_
  refine j_aload_n CJ dL_law_612 rfl ?_
  refine j_iload_n CJ dL_law_613 rfl ?_
  refine j_iconst CJ dL_law_614 ?_
  refine j_iadd CJ dL_law_615 ?_
  refine j_sld C hq (by omega) dL_law_616 (by omega) (by omega) ?_
  have hM : RM g1 := hR.rm (cm_canLie k1)
  refine j_callVi2 CJ vL_law_84 rfl rfl (Nat.le_of_ble_eq_true rfl) ⟨by decide, by decide⟩ dL_law_617 (ct_X5_canLie ⟨hM.1, hM.2.1, aR_of _, aR_of _⟩) (fun y g2 k2 => ?_)
  have hS := st_canLie hR k1 k2
  exact j_icmp_ee CJ dL_law_620 (by decide) hS.1 (kk g2 hS.2)
set_option maxHeartbeats 4000000 in
set_option maxRecDepth 100000 in
theorem lc_cut {b n : Nat} {xs : Nat → Int32} {K : KT} {J : JT} {q : Nat → Nat} {g : AG} {i : Int} (C : JRL b n xs K J) (hq : q 1000 = b) (hn : n ≤ 2048) (h0 : 0 ≤ i) (h1 : i + 3 < n) (hR : Rel g) (kk : ∀ g', Rel g' → J q ShW 38 31875 796 [some (.inr 1000), some (.inr 0), some (.inr 21), some (.inl i)] [] g') : J q ShW 38 31875 625 [some (.inr 1000), some (.inr 0), some (.inr 21), some (.inl i)] [] g := by
  have CJ := C.jr
  refine j_aload_n CJ dL_law_625 rfl ?_
  refine j_callVi0 CJ vL_law_85 rfl rfl (Nat.le_of_ble_eq_true rfl) ⟨by decide, by decide⟩ dL_law_626 (ct_X4_cut ⟨hR.lx, hR.kx⟩) (fun x g1 k1 => ?_)
  refine j_aload_n CJ dL_law_629 rfl ?_
  have hM : RM g1 := hR.rm (cm_cut k1)
  refine j_callVi0 CJ vL_law_88 rfl rfl (Nat.le_of_ble_eq_true rfl) ⟨by decide, by decide⟩ dL_law_630 (ct_X5_cut ⟨hM.1, hM.2.1⟩) (fun y g2 k2 => ?_)
  have hS := st_cut hR k1 k2
  exact j_icmp_ee CJ dL_law_633 (by decide) hS.1 (kk g2 hS.2)
set_option maxHeartbeats 4000000 in
set_option maxRecDepth 100000 in
theorem lc_cutAt {b n : Nat} {xs : Nat → Int32} {K : KT} {J : JT} {q : Nat → Nat} {g : AG} {i : Int} (C : JRL b n xs K J) (hq : q 1000 = b) (hn : n ≤ 2048) (h0 : 0 ≤ i) (h1 : i + 3 < n) (hR : Rel g) (kk : ∀ g', Rel g' → J q ShW 38 31875 796 [some (.inr 1000), some (.inr 0), some (.inr 21), some (.inl i)] [] g') : J q ShW 38 31875 638 [some (.inr 1000), some (.inr 0), some (.inr 21), some (.inl i)] [] g := by
  have CJ := C.jr
  refine j_aload_n CJ dL_law_638 rfl ?_
  refine j_aload_n CJ dL_law_639 rfl ?_
  refine j_iload_n CJ dL_law_640 rfl ?_
  refine j_iconst CJ dL_law_641 ?_
  refine j_iadd CJ dL_law_642 ?_
  refine j_sld C hq (by omega) dL_law_643 (by omega) (by omega) ?_
  refine j_callVi1 CJ vL_law_89 rfl rfl (Nat.le_of_ble_eq_true rfl) ⟨by decide, by decide⟩ dL_law_644 (ct_X4_cutAt ⟨hR.lx, hR.kx, aR_of _⟩) (fun x g1 k1 => ?_)
  refine j_aload_n CJ dL_law_647 rfl ?_
  refine j_aload_n CJ dL_law_648 rfl ?_
  refine j_iload_n CJ dL_law_649 rfl ?_
  refine j_iconst CJ dL_law_650 ?_
  refine j_iadd CJ dL_law_651 ?_
  refine j_sld C hq (by omega) dL_law_652 (by omega) (by omega) ?_
  have hM : RM g1 := hR.rm (cm_cutAt k1)
  refine j_callVi1 CJ vL_law_92 rfl rfl (Nat.le_of_ble_eq_true rfl) ⟨by decide, by decide⟩ dL_law_653 (ct_X5_cutAt ⟨hM.1, hM.2.1, aR_of _⟩) (fun y g2 k2 => ?_)
  have hS := st_cutAt hR k1 k2
  exact j_icmp_ee CJ dL_law_656 (by decide) hS.1 (kk g2 hS.2)
set_option maxHeartbeats 4000000 in
set_option maxRecDepth 100000 in
theorem lc_grade {b n : Nat} {xs : Nat → Int32} {K : KT} {J : JT} {q : Nat → Nat} {g : AG} {i : Int} (C : JRL b n xs K J) (hq : q 1000 = b) (hn : n ≤ 2048) (h0 : 0 ≤ i) (h1 : i + 3 < n) (hR : Rel g) (kk : ∀ g', Rel g' → J q ShW 38 31875 796 [some (.inr 1000), some (.inr 0), some (.inr 21), some (.inl i)] [] g') : J q ShW 38 31875 661 [some (.inr 1000), some (.inr 0), some (.inr 21), some (.inl i)] [] g := by
  have CJ := C.jr
  refine j_aload_n CJ dL_law_661 rfl ?_
  refine j_callVi0 CJ vL_law_93 rfl rfl (Nat.le_of_ble_eq_true rfl) ⟨by decide, by decide⟩ dL_law_662 (ct_X4_grade ⟨hR.gx.1.1, hR.gx.1.2⟩) (fun x g1 k1 => ?_)
  refine j_aload_n CJ dL_law_665 rfl ?_
  have hM : RM g1 := hR.rm (cm_grade k1)
  refine j_callVi0 CJ vL_law_96 rfl rfl (Nat.le_of_ble_eq_true rfl) ⟨by decide, by decide⟩ dL_law_666 (ct_X5_grade ⟨hM.2.2.1.1.1, hM.2.2.1.1.2⟩) (fun y g2 k2 => ?_)
  have hS := st_grade hR k1 k2
  exact j_icmp_ee CJ dL_law_669 (by decide) hS.1 (kk g2 hS.2)
set_option maxHeartbeats 4000000 in
set_option maxRecDepth 100000 in
theorem lc_cost {b n : Nat} {xs : Nat → Int32} {K : KT} {J : JT} {q : Nat → Nat} {g : AG} {i : Int} (C : JRL b n xs K J) (hq : q 1000 = b) (hn : n ≤ 2048) (h0 : 0 ≤ i) (h1 : i + 3 < n) (hR : Rel g) (kk : ∀ g', Rel g' → J q ShW 38 31875 796 [some (.inr 1000), some (.inr 0), some (.inr 21), some (.inl i)] [] g') : J q ShW 38 31875 674 [some (.inr 1000), some (.inr 0), some (.inr 21), some (.inl i)] [] g := by
  have CJ := C.jr
  refine j_aload_n CJ dL_law_674 rfl ?_
  refine j_aload_n CJ dL_law_675 rfl ?_
  refine j_iload_n CJ dL_law_676 rfl ?_
  refine j_iconst CJ dL_law_677 ?_
  refine j_iadd CJ dL_law_678 ?_
  refine j_sld C hq (by omega) dL_law_679 (by omega) (by omega) ?_
  refine j_aload_n CJ dL_law_680 rfl ?_
  refine j_iload_n CJ dL_law_681 rfl ?_
  refine j_iconst CJ dL_law_682 ?_
  refine j_iadd CJ dL_law_683 ?_
  refine j_sld C hq (by omega) dL_law_684 (by omega) (by omega) ?_
  refine j_aload_n CJ dL_law_685 rfl ?_
  refine j_iload_n CJ dL_law_686 rfl ?_
  refine j_iconst CJ dL_law_687 ?_
  refine j_iadd CJ dL_law_688 ?_
  refine j_sld C hq (by omega) dL_law_689 (by omega) (by omega) ?_
  refine j_callVi3 CJ vL_law_97 rfl rfl (Nat.le_of_ble_eq_true rfl) ⟨by decide, by decide⟩ dL_law_690 (ct_X4_cost ⟨aR_of _, aR_of _, aR_of _, hR.gx.1.1, hR.gx.1.2, (fun j => (hR.gx.2.1 j).1)⟩) (fun x g1 k1 => ?_)
  refine j_aload_n CJ dL_law_693 rfl ?_
  refine j_aload_n CJ dL_law_694 rfl ?_
  refine j_iload_n CJ dL_law_695 rfl ?_
  refine j_iconst CJ dL_law_696 ?_
  refine j_iadd CJ dL_law_697 ?_
  refine j_sld C hq (by omega) dL_law_698 (by omega) (by omega) ?_
  refine j_aload_n CJ dL_law_699 rfl ?_
  refine j_iload_n CJ dL_law_700 rfl ?_
  refine j_iconst CJ dL_law_701 ?_
  refine j_iadd CJ dL_law_702 ?_
  refine j_sld C hq (by omega) dL_law_703 (by omega) (by omega) ?_
  refine j_aload_n CJ dL_law_704 rfl ?_
  refine j_iload_n CJ dL_law_705 rfl ?_
  refine j_iconst CJ dL_law_706 ?_
  refine j_iadd CJ dL_law_707 ?_
  refine j_sld C hq (by omega) dL_law_708 (by omega) (by omega) ?_
  have hM : RM g1 := hR.rm (cm_cost k1)
  refine j_callVi3 CJ vL_law_100 rfl rfl (Nat.le_of_ble_eq_true rfl) ⟨by decide, by decide⟩ dL_law_709 (ct_X5_cost ⟨aR_of _, aR_of _, aR_of _, hM.2.2.1.1.1, hM.2.2.1.1.2, (fun j => (hM.2.2.1.2 j).1)⟩) (fun y g2 k2 => ?_)
  have hS := st_cost hR k1 k2
  exact j_icmp_ee CJ dL_law_712 (by decide) hS.1 (kk g2 hS.2)
set_option maxHeartbeats 4000000 in
set_option maxRecDepth 100000 in
theorem lc_tour {b n : Nat} {xs : Nat → Int32} {K : KT} {J : JT} {q : Nat → Nat} {g : AG} {i : Int} (C : JRL b n xs K J) (hq : q 1000 = b) (hn : n ≤ 2048) (h0 : 0 ≤ i) (h1 : i + 3 < n) (hR : Rel g) (kk : ∀ g', Rel g' → J q ShW 38 31875 796 [some (.inr 1000), some (.inr 0), some (.inr 21), some (.inl i)] [] g') : J q ShW 38 31875 717 [some (.inr 1000), some (.inr 0), some (.inr 21), some (.inl i)] [] g := by
  have CJ := C.jr
  refine j_aload_n CJ dL_law_717 rfl ?_
  refine j_aload_n CJ dL_law_718 rfl ?_
  refine j_iload_n CJ dL_law_719 rfl ?_
  refine j_iconst CJ dL_law_720 ?_
  refine j_iadd CJ dL_law_721 ?_
  refine j_sld C hq (by omega) dL_law_722 (by omega) (by omega) ?_
  refine j_callVi1 CJ vL_law_101 rfl rfl (Nat.le_of_ble_eq_true rfl) ⟨by decide, by decide⟩ dL_law_723 (ct_X4_tour ⟨hR.gx, aR_of _⟩) (fun x g1 k1 => ?_)
  refine j_aload_n CJ dL_law_726 rfl ?_
  refine j_aload_n CJ dL_law_727 rfl ?_
  refine j_iload_n CJ dL_law_728 rfl ?_
  refine j_iconst CJ dL_law_729 ?_
  refine j_iadd CJ dL_law_730 ?_
  refine j_sld C hq (by omega) dL_law_731 (by omega) (by omega) ?_
  have hM : RM g1 := hR.rm (cm_tour k1)
  refine j_callVi1 CJ vL_law_104 rfl rfl (Nat.le_of_ble_eq_true rfl) ⟨by decide, by decide⟩ dL_law_732 (ct_X5_tour ⟨hM.2.2.1, aR_of _⟩) (fun y g2 k2 => ?_)
  have hS := st_tour hR k1 k2
  exact j_icmp_ee CJ dL_law_735 (by decide) hS.1 (kk g2 hS.2)
set_option maxHeartbeats 4000000 in
set_option maxRecDepth 100000 in
theorem lc_tourAt {b n : Nat} {xs : Nat → Int32} {K : KT} {J : JT} {q : Nat → Nat} {g : AG} {i : Int} (C : JRL b n xs K J) (hq : q 1000 = b) (hn : n ≤ 2048) (h0 : 0 ≤ i) (h1 : i + 3 < n) (hR : Rel g) (kk : ∀ g', Rel g' → J q ShW 38 31875 796 [some (.inr 1000), some (.inr 0), some (.inr 21), some (.inl i)] [] g') : J q ShW 38 31875 740 [some (.inr 1000), some (.inr 0), some (.inr 21), some (.inl i)] [] g := by
  have CJ := C.jr
  refine j_aload_n CJ dL_law_740 rfl ?_
  refine j_aload_n CJ dL_law_741 rfl ?_
  refine j_iload_n CJ dL_law_742 rfl ?_
  refine j_iconst CJ dL_law_743 ?_
  refine j_iadd CJ dL_law_744 ?_
  refine j_sld C hq (by omega) dL_law_745 (by omega) (by omega) ?_
  refine j_aload_n CJ dL_law_746 rfl ?_
  refine j_iload_n CJ dL_law_747 rfl ?_
  refine j_iconst CJ dL_law_748 ?_
  refine j_iadd CJ dL_law_749 ?_
  refine j_sld C hq (by omega) dL_law_750 (by omega) (by omega) ?_
  refine j_callVi2 CJ vL_law_105 rfl rfl (Nat.le_of_ble_eq_true rfl) ⟨by decide, by decide⟩ dL_law_751 (ct_X4_tourAt ⟨hR.gx, aR_of _, aR_of _⟩) (fun x g1 k1 => ?_)
  refine j_aload_n CJ dL_law_754 rfl ?_
  refine j_aload_n CJ dL_law_755 rfl ?_
  refine j_iload_n CJ dL_law_756 rfl ?_
  refine j_iconst CJ dL_law_757 ?_
  refine j_iadd CJ dL_law_758 ?_
  refine j_sld C hq (by omega) dL_law_759 (by omega) (by omega) ?_
  refine j_aload_n CJ dL_law_760 rfl ?_
  refine j_iload_n CJ dL_law_761 rfl ?_
  refine j_iconst CJ dL_law_762 ?_
  refine j_iadd CJ dL_law_763 ?_
  refine j_sld C hq (by omega) dL_law_764 (by omega) (by omega) ?_
  have hM : RM g1 := hR.rm (cm_tourAt k1)
  refine j_callVi2 CJ vL_law_108 rfl rfl (Nat.le_of_ble_eq_true rfl) ⟨by decide, by decide⟩ dL_law_765 (ct_X5_tourAt ⟨hM.2.2.1, aR_of _, aR_of _⟩) (fun y g2 k2 => ?_)
  have hS := st_tourAt hR k1 k2
  exact j_icmp_ee CJ dL_law_768 (by decide) hS.1 (kk g2 hS.2)
set_option maxHeartbeats 4000000 in
set_option maxRecDepth 100000 in
theorem lc_told {b n : Nat} {xs : Nat → Int32} {K : KT} {J : JT} {q : Nat → Nat} {g : AG} {i : Int} (C : JRL b n xs K J) (hq : q 1000 = b) (hn : n ≤ 2048) (h0 : 0 ≤ i) (h1 : i + 3 < n) (hR : Rel g) (kk : ∀ g', Rel g' → J q ShW 38 31875 796 [some (.inr 1000), some (.inr 0), some (.inr 21), some (.inl i)] [] g') : J q ShW 38 31875 773 [some (.inr 1000), some (.inr 0), some (.inr 21), some (.inl i)] [] g := by
  have CJ := C.jr
  refine j_aload_n CJ dL_law_773 rfl ?_
  refine j_aload_n CJ dL_law_774 rfl ?_
  refine j_iload_n CJ dL_law_775 rfl ?_
  refine j_iconst CJ dL_law_776 ?_
  refine j_iadd CJ dL_law_777 ?_
  refine j_sld C hq (by omega) dL_law_778 (by omega) (by omega) ?_
  refine j_callVi1 CJ vL_law_109 rfl rfl (Nat.le_of_ble_eq_true rfl) ⟨by decide, by decide⟩ dL_law_779 (ct_X4_told (aR_of _)) (fun x g1 k1 => ?_)
  refine j_aload_n CJ dL_law_782 rfl ?_
  refine j_aload_n CJ dL_law_783 rfl ?_
  refine j_iload_n CJ dL_law_784 rfl ?_
  refine j_iconst CJ dL_law_785 ?_
  refine j_iadd CJ dL_law_786 ?_
  refine j_sld C hq (by omega) dL_law_787 (by omega) (by omega) ?_
  have hM : RM g1 := hR.rm (cm_told k1)
  refine j_callVi1 CJ vL_law_112 rfl rfl (Nat.le_of_ble_eq_true rfl) ⟨by decide, by decide⟩ dL_law_788 (ct_X5_told ⟨aR_of _, hM.2.2.2.1.1, hM.2.2.2.1.2, hM.2.2.2.2⟩) (fun y g2 k2 => ?_)
  have hS := st_told hR k1 k2
  exact j_icmp_ee CJ dL_law_791 (by decide) hS.1 (kk g2 hS.2)
set_option maxHeartbeats 8000000 in
set_option maxRecDepth 100000 in
theorem law_loop {b n : Nat} {xs : Nat → Int32} {J : JT} (C : JRL b n xs lwK J) (hn : n ≤ 2048) : ∀ (k i : Nat) (q : Nat → Nat) (g : AG), n ≤ i + k → i ≤ n → q 1000 = b → Rel g → J q ShW 38 31875 18 [some (.inr 1000), some (.inr 0), some (.inr 21), some (.inl (i : Int))] [] g := by
  have CJ := C.jr
  refine byN _ (fun k ih i q g hk hi hq hR => ?_)
  refine j_iload_n CJ dL_law_18 rfl ?_
  refine j_aload_n CJ dL_law_19 rfl ?_
  refine j_slen C hq dL_law_20 ?_
  refine j_iconst CJ dL_law_21 ?_
  refine j_isub CJ dL_law_22 ?_
  refine j_icmp_gt CJ (tgt := 802) dL_law_23 (by decide) ⟨by omega, by omega⟩ ⟨by omega, by omega⟩ (fun c => ?_) (fun c => ?_)
  · refine j_iconst CJ dL_law_802 ?_
    exact j_iret CJ dL_law_803 (fun _ => ⟨rfl, Nat.le_refl _, Nat.le_refl _⟩)
  · have kk : ∀ g', Rel g' → J q ShW 38 31875 796 [some (.inr 1000), some (.inr 0), some (.inr 21), some (.inl (i : Int))] [] g' := by
      intro g' hR'
      refine j_iinc CJ dL_law_796 rfl ?_
      refine j_goto CJ (tgt := 18) dL_law_799 (by decide) ?_
      have h := ih (k - 4) (by omega) (i + 4) q g' (by omega) (by omega) hq hR'
      rw [show ((i + 4 : Nat) : Int) = (i : Int) + 4 by omega] at h
      exact h
    have h0 : (0 : Int) ≤ (i : Int) := by omega
    have h3 : (i : Int) + 3 < n := by omega
    refine j_aload_n CJ dL_law_26 rfl ?_
    refine j_iload_n CJ dL_law_27 rfl ?_
    refine j_sld C hq (by omega) dL_law_28 (by omega) (by omega) ?_
    refine j_bipush CJ dL_law_29 (by decide +kernel) ?_
    refine j_iand CJ dL_law_31 (and31 _) ?_
    exact j_tsw24 CJ (td := 796) (t0 := 144) (t1 := 167) (t2 := 210) (t3 := 243) (t4 := 266) (t5 := 299) (t6 := 312) (t7 := 325) (t8 := 338) (t9 := 371) (t10 := 404) (t11 := 437) (t12 := 470) (t13 := 503) (t14 := 526) (t15 := 549) (t16 := 592) (t17 := 625) (t18 := 638) (t19 := 661) (t20 := 674) (t21 := 717) (t22 := 740) (t23 := 773) dL_law_32 (by decide) ⟨by decide, by decide, by decide, by decide, by decide, by decide, by decide, by decide, by decide, by decide, by decide, by decide, by decide, by decide, by decide, by decide, by decide, by decide, by decide, by decide, by decide, by decide, by decide, by decide⟩ (aR_of _) (fun _ => lc_sheet C hq hn h0 h3 hR kk) (fun _ => lc_read C hq hn h0 h3 hR kk) (fun _ => lc_reading C hq hn h0 h3 hR kk) (fun _ => lc_across C hq hn h0 h3 hR kk) (fun _ => lc_along C hq hn h0 h3 hR kk) (fun _ => lc_groups C hq hn h0 h3 hR kk) (fun _ => lc_take C hq hn h0 h3 hR kk) (fun _ => lc_clear C hq hn h0 h3 hR kk) (fun _ => lc_laws C hq hn h0 h3 hR kk) (fun _ => lc_spread C hq hn h0 h3 hR kk) (fun _ => lc_base C hq hn h0 h3 hR kk) (fun _ => lc_set C hq hn h0 h3 hR kk) (fun _ => lc_about C hq hn h0 h3 hR kk) (fun _ => lc_uneven C hq hn h0 h3 hR kk) (fun _ => lc_best C hq hn h0 h3 hR kk) (fun _ => lc_kind C hq hn h0 h3 hR kk) (fun _ => lc_canLie C hq hn h0 h3 hR kk) (fun _ => lc_cut C hq hn h0 h3 hR kk) (fun _ => lc_cutAt C hq hn h0 h3 hR kk) (fun _ => lc_grade C hq hn h0 h3 hR kk) (fun _ => lc_cost C hq hn h0 h3 hR kk) (fun _ => lc_tour C hq hn h0 h3 hR kk) (fun _ => lc_tourAt C hq hn h0 h3 hR kk) (fun _ => lc_told C hq hn h0 h3 hR kk) (fun _ => kk g hR)
set_option maxHeartbeats 8000000 in
set_option maxRecDepth 100000 in
theorem law_entry {b n : Nat} {xs : Nat → Int32} {J : JT} {q : Nat → Nat} (C : JRL b n xs lwK J) (hn : n ≤ 2048) (hq : q 1000 = b) : J q [] 0 0 0 [some (.inr 1000), none, none, none] [] g00 := by
  have CJ := C.jr
  refine j_new CJ _ nwL_law_7 (fun _ => rfl) rfl rfl rfl (by decide) ⟨by decide, by decide⟩ dL_law_0 (fun q1 hq1 => ?_)
  show J q1 [.inl (4, [some none, some none, some none, some none])] 1 4 3 _ _ _
  refine j_dup CJ dL_law_3 ?_
  refine j_callN [] CJ vL_law_9 rfl rfl (Nat.le_of_ble_eq_true rfl) rfl rfl ⟨by decide, by decide⟩ dL_law_4 (ct_X4_init (fun _ _ _ => rfl)) (fun q2 g2 hq2 hk2 => ?_)
  subst hk2
  show J q2 [.inl (4, [some (some 1), some (some 8), some (some 12), some (some 18)]), .inl (0, [some (some 2), some (some 3), some (some 4), some (some 5), none, none, some (some 6), some (some 7)]), .inr (false, 100), .inr (false, 100), .inr (false, 100), .inr (true, 100), .inr (false, 64), .inr (false, 64), .inl (2, [some (some 9), some (some 10), none, none, none, none, none, some (some 11)]), .inr (false, 24), .inr (false, 24), .inr (false, 10584), .inl (3, [some (some 8), some (some 13), some (some 14), some (some 15), none, some (some 16), some (some 17)]), .inr (false, 4), .inr (false, 4), .inr (false, 4), .inr (false, 25), .inr (false, 24), .inl (1, [none, some (some 19), some (some 20), none]), .inr (false, 81), .inr (false, 4608)] 21 15941 7 _ _ _
  refine j_astore_n CJ dL_law_7 (by decide) ?_
  refine j_new CJ _ nwL_law_10 (fun _ => rfl) rfl rfl rfl (by decide) ⟨by decide, by decide⟩ dL_law_8 (fun q3 hq3 => ?_)
  show J q3 [.inl (4, [some (some 1), some (some 8), some (some 12), some (some 18)]), .inl (0, [some (some 2), some (some 3), some (some 4), some (some 5), none, none, some (some 6), some (some 7)]), .inr (false, 100), .inr (false, 100), .inr (false, 100), .inr (true, 100), .inr (false, 64), .inr (false, 64), .inl (2, [some (some 9), some (some 10), none, none, none, none, none, some (some 11)]), .inr (false, 24), .inr (false, 24), .inr (false, 10584), .inl (3, [some (some 8), some (some 13), some (some 14), some (some 15), none, some (some 16), some (some 17)]), .inr (false, 4), .inr (false, 4), .inr (false, 4), .inr (false, 25), .inr (false, 24), .inl (1, [none, some (some 19), some (some 20), none]), .inr (false, 81), .inr (false, 4608), .inl (5, [none, none, some none, some none, some none, some none, some none, some none, some none, some none, none, none, none, none, none, some none, some none, some none, none, some none, some none, some none, some none, some none])] 22 15965 11 _ _ _
  refine j_dup CJ dL_law_11 ?_
  have hz : ∀ k j, 22 ≤ k → shtN g00 k j = 0 := fun k j h => by
    unfold shtN
    rw [row_n _ _ (by omega), lipN_z (by omega), eyeF_z (by omega)]
    rfl
  refine j_callN [] CJ vL_law_12 rfl rfl (Nat.le_of_ble_eq_true rfl) rfl rfl ⟨by decide, by decide⟩ dL_law_12 (ct_X5_init hz) (fun q4 g4 hq4 hk4 => ?_)
  subst hk4
  show J q4 ShW 38 31875 15 _ _ _
  refine j_astore_n CJ dL_law_15 (by decide) ?_
  refine j_iconst CJ dL_law_16 ?_
  refine j_istore_n CJ dL_law_17 (by decide) ?_
  have e : q4 1000 = b := by
    rw [hq4 1000 (Or.inr (by decide)), hq3 1000 (Or.inr (by decide)), hq2 1000 (Or.inr (by decide)), hq1 1000 (Or.inr (by decide))]
    exact hq
  exact law_loop C hn n 0 q4 _ (by omega) (by omega) e Rel_0
