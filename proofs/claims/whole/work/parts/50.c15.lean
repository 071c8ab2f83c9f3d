/-- the model's first setting so far -/
def fbI (D : BD) (n : Nat) (b al ow : Int) : Prop := -1 ≤ al ∧ al < 1000000 ∧ (-10 ≤ ow ∧ ow ≤ 10) ∧ ((al = -1 ∧ ∀ x, -10 ≤ x → x < b → bV D (n - 1) 0 0 x = 1000000) ∨ ((0 ≤ al ∧ al = bV D (n - 1) 0 0 ow) ∧ ow < b ∧ (∀ x, -10 ≤ x → x < b → al ≤ bV D (n - 1) 0 0 x) ∧ ∀ x, -10 ≤ x → x < ow → al < bV D (n - 1) 0 0 x))
theorem fbI_bst {D : BD} (hD : dI D) {n : Nat} (h2 : 2 ≤ n) (hn : n ≤ 24) {L y : Int} (h : fbI D n 11 L y) : bstQ D n L (fun _ => y) 0 := by
  obtain ⟨h1, h3, h4, h5⟩ := h
  have h0 := bV_0 hD (n - 1) 0 (by omega)
  rcases h5 with ⟨z1, z2⟩ | ⟨z1, z2, z3, z4⟩
  · have := z2 0 (by omega) (by omega)
    omega
  · exact ⟨⟨h4.1, h4.2, h3, z1.2.symm, fun x q1 q2 => z3 x q1 (by omega), z4⟩, fun p hp => by omega⟩
theorem fbI_n {D : BD} {n : Nat} {b al ow : Int} (hb : bV D (n - 1) 0 0 b = 1000000 ∨ (0 ≤ al ∧ al ≤ bV D (n - 1) 0 0 b)) (h : fbI D n b al ow) : fbI D n (b + 1) al ow := by
  obtain ⟨h1, h3, h4, h5⟩ := h
  refine ⟨h1, h3, h4, ?_⟩
  rcases h5 with ⟨z1, z2⟩ | ⟨z1, z2, z3, z4⟩
  · refine Or.inl ⟨z1, fun x q1 q2 => ?_⟩
    by_cases e : x = b
    · subst e; omega
    · exact z2 x q1 (by omega)
  · refine Or.inr ⟨z1, by omega, fun x q1 q2 => ?_, z4⟩
    by_cases e : x = b
    · subst e; omega
    · exact z3 x q1 (by omega)
theorem fbI_y {D : BD} {n : Nat} {b al ow : Int} (hr : -10 ≤ b ∧ b ≤ 10) (h0 : 0 ≤ bV D (n - 1) 0 0 b) (hlt : bV D (n - 1) 0 0 b < 1000000) (hb : al < 0 ∨ bV D (n - 1) 0 0 b < al) (h : fbI D n b al ow) : fbI D n (b + 1) (bV D (n - 1) 0 0 b) b := by
  obtain ⟨h1, h3, h4, h5⟩ := h
  refine ⟨by omega, hlt, hr, Or.inr ⟨⟨h0, rfl⟩, by omega, fun x q1 q2 => ?_, fun x q1 q2 => ?_⟩⟩
  · by_cases e : x = b
    · subst e; omega
    · rcases h5 with ⟨z1, z2⟩ | ⟨z1, z2, z3, z4⟩
      · have := z2 x q1 (by omega)
        omega
      · have := z3 x q1 (by omega)
        omega
  · rcases h5 with ⟨z1, z2⟩ | ⟨z1, z2, z3, z4⟩
    · have := z2 x q1 q2
      omega
    · have := z3 x q1 q2
      omega
set_option maxHeartbeats 16000000 in
set_option maxRecDepth 100000 in
theorem wh_best {k : Int} {g : AG} {q : Nat → Nat} {J : JT} {K0 : Int → AG → Prop} (C : JR yX5_best.cls cX5_best 11 wsX5_best rmX5_best (kI false q ShW K0) J) (hw : aW g) (hL : LM g) : ∀ (s L ow ah le sp : Int) (i : Nat) (f xs : Nat → Int), (k = 0 ∨ k = 1) → s = (if k = 0 then 1 else 0) → (∀ p : Nat, p + 1 ≤ (g 21 0).toNat → ∀ a b, -10 ≤ a ∧ a ≤ 10 → -10 ≤ b ∧ b ≤ 10 → f (sp3 (p : Int) a b) = enc (bV (dM g s) ((g 21 0).toNat - 1 - p) p a b)) → (i : Int) + 1 < g 21 0 → -10 ≤ ah ∧ ah ≤ 10 → -10 ≤ ow ∧ ow ≤ 10 → -60000 ≤ le ∧ le ≤ 60000 → 0 ≤ L ∧ L ≤ 60000 → (i = 0 → ah = 0) → LM (row (row g 34 f) 29 (fillU (g 29) (i + 1) xs)) → inv (dM g s) ((g 21 0).toNat - 2 - i + 1) i sp L ah ow → (s = 1 → le = L - sp) → (∀ (c : Int) (l10 : Option AV), fgd (dM g s) (bV (dM g s) ((g 21 0).toNat - 2 - i) (i + 1)) i sp L ah ow c → J q ShW 0 0 250 [some (.inr 21), some (.inl k), some (.inl L), some (.inl ow), some (.inl ah), some (.inl le), some (.inl (i : Int)), some (.inl c), some (.inl 1), some (.inl (erc (dM g s) i ah ow c)), l10] [] (row (row g 34 f) 29 (fillU (g 29) (i + 1) xs))) → ∀ n : Nat, ∀ (c cs : Int) (l9 l10 : Option AV), (cs - c).toNat = n → -11 ≤ c → c < cs → gdc (dM g s) (bV (dM g s) ((g 21 0).toNat - 2 - i) (i + 1)) i sp L ah ow cs → (∀ x, x ≤ c → ¬ gdc (dM g s) (bV (dM g s) ((g 21 0).toNat - 2 - i) (i + 1)) i sp L ah ow x) → J q ShW 0 0 112 [some (.inr 21), some (.inl k), some (.inl L), some (.inl ow), some (.inl ah), some (.inl le), some (.inl (i : Int)), some (.inl c), some (.inl 0), l9, l10] [] (row (row g 34 f) 29 (fillU (g 29) (i + 1) xs)) := by
  have hn := hL.1
  have hnx := hL.2.1
  have hbd := hL.2.2.1
  intro s L ow ah le sp i f xs hk hks hT hi hah how hle hLb hi0 hLf hinv hles kk
  have hs : s = 0 ∨ s = 1 := by
    rcases hk with q | q
    · rw [if_pos q] at hks; exact Or.inr hks
    · rw [if_neg (by omega)] at hks; exact Or.inl hks
  have hks2 : (k = 0 ∧ s = 1) ∨ (k = 1 ∧ s = 0) := by
    rcases hk with q | q
    · rw [if_pos q] at hks; exact Or.inl ⟨q, hks⟩
    · rw [if_neg (by omega)] at hks; exact Or.inr ⟨q, hks⟩
  have hD := dI_M hL hs
  have hi4 : s = 1 → sp + bV (dM g s) ((g 21 0).toNat - 2 - i + 1) i ah ow = L := hinv.2.2.2.1
  have hi5 : s = 0 → bV (dM g s) ((g 21 0).toNat - 2 - i + 1) i ah ow ≤ L := hinv.2.2.2.2
  have hsp0 := hinv.1
  have hsp1 := hinv.2.1
  refine byN _ (fun n ih c cs l9 l10 hn2 hc1 hc2 hcs hno => ?_)
  refine j_iload C dX5_best_112 rfl ?_
  refine j_if_ne C (tgt := 250) dX5_best_114 (by decide) (by first | omega | (refine ⟨?_, ?_⟩ <;> omega) | exact hw _ _ | exact nrm_R _) (fun c_114 => ?_) (fun c_114 => ?_)
  · exfalso; omega
  · refine j_iinc C dX5_best_117 rfl ?_
    dsimp only [List.set]
    have hcs2 := hcs.2.1
    have hcc : -10 ≤ c + 1 ∧ c + 1 ≤ 10 := ⟨by omega, by omega⟩
    have hr := erc_b hD i hah how hcc
    have hr2 : -2300 ≤ er0 (dM g s) i ah ow + g 21 13 * (c + 1) ∧ er0 (dM g s) i ah ow + g 21 13 * (c + 1) ≤ 2300 := (er0_b hD i hah how hcc).2
    have hE : erc (dM g s) i ah ow (c + 1) = ((er0 (dM g s) i ah ow + g 21 13 * (c + 1)).natAbs : Int) := rfl
    have hWb := bV_b hD ((g 21 0).toNat - 2 - i) (i + 1) ow (c + 1) how hcc
    have hew := enc_c hWb.2.1
    have eix : (441 * ((i : Int) + 1) + 21 * (ow + 10) + (c + 1) + 10).toNat = sp3 ((i : Int) + 1) ow (c + 1) := by
      unfold sp3
      congr 1
      omega
    have hTc : (row (row g 34 f) 29 (fillU (g 29) (i + 1) xs)) 34 (sp3 ((i : Int) + 1) ow (c + 1)) = enc ((bV (dM g s) ((g 21 0).toNat - 2 - i) (i + 1)) ow (c + 1)) := by
      have z := hT (i + 1) (by omega) ow (c + 1) how hcc
      rw [show ((i + 1 : Nat) : Int) = (i : Int) + 1 by omega, show (g 21 0).toNat - 1 - (i + 1) = (g 21 0).toNat - 2 - i by omega] at z
      exact z
    have eo1 : (i : Int) = 0 → (row (row g 34 f) 29 (fillU (g 29) (i + 1) xs)) 28 ((i : Int)).toNat + (row (row g 34 f) 29 (fillU (g 29) (i + 1) xs)) 21 12 * ow + (row (row g 34 f) 29 (fillU (g 29) (i + 1) xs)) 21 13 * (0 + (c + 1)) = er0 (dM g s) i ah ow + g 21 13 * (c + 1) := fun z => by
      unfold er0
      rw [if_pos (by omega), Int.add_zero, Int.zero_add, show ((i : Int)).toNat = i by omega]
      rfl
    have eo2 : ¬ (i : Int) = 0 → (row (row g 34 f) 29 (fillU (g 29) (i + 1) xs)) 28 ((i : Int)).toNat + (row (row g 34 f) 29 (fillU (g 29) (i + 1) xs)) 21 12 * ow + (row (row g 34 f) 29 (fillU (g 29) (i + 1) xs)) 21 13 * (ah + (c + 1)) = er0 (dM g s) i ah ow + g 21 13 * (c + 1) := fun z => by
      unfold er0
      rw [if_neg (by omega), Int.mul_add, ← Int.add_assoc, show ((i : Int)).toNat = i by omega]
      rfl
    have hVF : okc (dM g s) i ah ow (c + 1) → bV (dM g s) ((g 21 0).toNat - 2 - i + 1) i ah ow ≤ tog s (erc (dM g s) i ah ow (c + 1)) ((bV (dM g s) ((g 21 0).toNat - 2 - i) (i + 1)) ow (c + 1)) := fun z => by
      have h2 : bV (dM g s) ((g 21 0).toNat - 2 - i + 1) i ah ow ≤ bF (dM g s) (bV (dM g s) ((g 21 0).toNat - 2 - i) (i + 1)) i ah ow (c + 1) := (mnF_21 (bF (dM g s) (bV (dM g s) ((g 21 0).toNat - 2 - i) (i + 1)) i ah ow)).2.1 (c + 1) hcc.1 hcc.2 (by omega)
      have h3 : bF (dM g s) (bV (dM g s) ((g 21 0).toNat - 2 - i) (i + 1)) i ah ow (c + 1) = tog s (erc (dM g s) i ah ow (c + 1)) ((bV (dM g s) ((g 21 0).toNat - 2 - i) (i + 1)) ow (c + 1)) := cif_t z
      rw [h3] at h2
      exact h2
    have htA := tog_c (a := sp) (b := erc (dM g s) i ah ow (c + 1)) hs
    have htB := tog_c (a := tog s sp (erc (dM g s) i ah ow (c + 1))) (b := (bV (dM g s) ((g 21 0).toNat - 2 - i) (i + 1)) ow (c + 1)) hs
    have htF := tog_c (a := erc (dM g s) i ah ow (c + 1)) (b := (bV (dM g s) ((g 21 0).toNat - 2 - i) (i + 1)) ow (c + 1)) hs
    have hgd : gdc (dM g s) (bV (dM g s) ((g 21 0).toNat - 2 - i) (i + 1)) i sp L ah ow (c + 1) ↔ (okc (dM g s) i ah ow (c + 1) ∧ tog s (tog s sp (erc (dM g s) i ah ow (c + 1))) ((bV (dM g s) ((g 21 0).toNat - 2 - i) (i + 1)) ow (c + 1)) ≤ L) := ⟨fun z => ⟨z.2.2.1, z.2.2.2⟩, fun z => ⟨hcc.1, hcc.2, z.1, z.2⟩⟩
    refine j_aload_n C dX5_best_120 rfl ?_
    refine j_iload C dX5_best_121 rfl ?_
    refine j_iload C dX5_best_123 rfl ?_
    refine j_iload_n C dX5_best_125 rfl ?_
    refine j_iload C dX5_best_126 rfl ?_
    refine j_callVi4 C vX5_best_119 rfl rfl (Nat.le_of_ble_eq_true rfl) ⟨Nat.zero_le _, Nat.zero_le _⟩ dX5_best_128 (ct_X5_goes (s := s) ⟨hLf, by omega, by omega, hah.1, hah.2, how.1, how.2, hcc.1, hcc.2⟩) (fun x_128 g_128 hk_128 => ?_)
    obtain ⟨e_128, hb_128, hi_128⟩ := hk_128
    have e_128 := e_128.symm
    subst e_128
    refine j_if_eq C (tgt := 164) dX5_best_131 (by decide) (by first | omega | (refine ⟨?_, ?_⟩ <;> omega) | exact hw _ _ | exact nrm_R _) (fun c_131 => ?_) (fun c_131 => ?_)
    · refine j_iconst C dX5_best_164 ?_
      refine j_istore C dX5_best_165 (Nat.le_of_ble_eq_true rfl) ?_
      dsimp only [List.set]
      refine j_aload_n C dX5_best_167 rfl ?_
      refine j_getR C fX5_best_33 rfl rfl dX5_best_168 ?_
      refine j_iload C dX5_best_171 rfl ?_
      refine j_iaload C rfl (by decide) dX5_best_173 (by first | omega | (refine ⟨?_, ?_⟩ <;> omega) | exact hw _ _ | exact nrm_R _) (by first | omega | (refine ⟨?_, ?_⟩ <;> omega) | exact hw _ _ | exact nrm_R _) ?_
      refine j_aload_n C dX5_best_174 rfl ?_
      refine j_getI C fX5_best_45 rfl rfl dX5_best_175 ?_
      refine j_iload_n C dX5_best_178 rfl ?_
      refine j_imul C dX5_best_179 ?_
      refine j_iadd C dX5_best_180 ?_
      refine j_aload_n C dX5_best_181 rfl ?_
      refine j_getI C fX5_best_106 rfl rfl dX5_best_182 ?_
      refine j_iload C dX5_best_185 rfl ?_
      refine j_if_ne C (tgt := 194) dX5_best_187 (by decide) (by first | omega | (refine ⟨?_, ?_⟩ <;> omega) | exact hw _ _ | exact nrm_R _) (fun c_187 => ?_) (fun c_187 => ?_)
      · refine j_iload C dX5_best_194 rfl ?_
        refine j_iload C dX5_best_196 rfl ?_
        refine j_iadd C dX5_best_198 ?_
        refine j_imul C dX5_best_199 ?_
        refine j_iadd C dX5_best_200 ?_
        first | rw [eo1 c_187] | rw [eo2 c_187]
        refine j_callSi1 C vX5_best_99 rfl (Nat.le_of_ble_eq_true rfl) ⟨Nat.zero_le _, Nat.zero_le _⟩ dX5_best_201 (ct_X5_size ⟨by omega, by omega⟩) (fun x_201 g_201 hk_201 => ?_)
        obtain ⟨e_201, rfl⟩ := hk_201
        have e_201 := e_201.symm
        subst e_201
        rw [← hE]
        refine j_istore C dX5_best_204 (Nat.le_of_ble_eq_true rfl) ?_
        dsimp only [List.set]
        refine j_iload C dX5_best_206 rfl ?_
        refine j_if_lt C (tgt := 244) dX5_best_208 (by decide) (by first | omega | (refine ⟨?_, ?_⟩ <;> omega) | exact hw _ _ | exact nrm_R _) (fun c_208 => ?_) (fun c_208 => ?_)
        · refine j_iconst C dX5_best_244 ?_
          refine j_istore C dX5_best_245 (Nat.le_of_ble_eq_true rfl) ?_
          dsimp only [List.set]
          refine j_goto C (tgt := 112) dX5_best_247 (by decide) ?_
          first
          | (exfalso; omega)
          | (have hng : ¬ gdc (dM g s) (bV (dM g s) ((g 21 0).toNat - 2 - i) (i + 1)) i sp L ah ow (c + 1) := fun z => by
               obtain ⟨z1, z2⟩ := hgd.mp z
               have z3 := hVF z1
               first
               | (have := hi_128.mpr z1; omega)
               | omega
             have hlt : c + 1 < cs := by
               rcases (show c + 1 < cs ∨ c + 1 = cs by omega) with q | q
               · exact q
               · exact absurd (q ▸ hcs) hng
             refine ih _ (by omega) (c + 1) cs _ _ rfl (by omega) hlt hcs (fun x hx => ?_)
             by_cases e : x = c + 1
             · subst e; exact hng
             · exact hno x (by omega))
          | (have hok := hi_128.mp (by omega)
             have z3 := hVF hok
             have hg : gdc (dM g s) (bV (dM g s) ((g 21 0).toNat - 2 - i) (i + 1)) i sp L ah ow (c + 1) := hgd.mpr ⟨hok, by omega⟩
             refine j_iload C dX5_best_112 rfl ?_
             refine j_if_ne C (tgt := 250) dX5_best_114 (by decide) (by first | omega | (refine ⟨?_, ?_⟩ <;> omega) | exact hw _ _ | exact nrm_R _) (fun c_114 => ?_) (fun c_114 => ?_)
             · exact kk (c + 1) _ ⟨hg, fun x hx => hno x (by omega)⟩
             · exact absurd c_114 (by first | omega | (refine ⟨?_, ?_⟩ <;> omega) | exact hw _ _ | exact nrm_R _))
        · refine j_iload_n C dX5_best_211 rfl ?_
          refine j_if_ne C (tgt := 228) dX5_best_212 (by decide) (by first | omega | (refine ⟨?_, ?_⟩ <;> omega) | exact hw _ _ | exact nrm_R _) (fun c_212 => ?_) (fun c_212 => ?_)
          · refine j_iload C dX5_best_228 rfl ?_
            refine j_iload_n C dX5_best_230 rfl ?_
            refine j_icmp_gt C (tgt := 244) dX5_best_231 (by decide) (by first | omega | (refine ⟨?_, ?_⟩ <;> omega) | exact hw _ _ | exact nrm_R _) (by first | omega | (refine ⟨?_, ?_⟩ <;> omega) | exact hw _ _ | exact nrm_R _) (fun c_231 => ?_) (fun c_231 => ?_)
            · refine j_iconst C dX5_best_244 ?_
              refine j_istore C dX5_best_245 (Nat.le_of_ble_eq_true rfl) ?_
              dsimp only [List.set]
              refine j_goto C (tgt := 112) dX5_best_247 (by decide) ?_
              first
              | (exfalso; omega)
              | (have hng : ¬ gdc (dM g s) (bV (dM g s) ((g 21 0).toNat - 2 - i) (i + 1)) i sp L ah ow (c + 1) := fun z => by
                   obtain ⟨z1, z2⟩ := hgd.mp z
                   have z3 := hVF z1
                   first
                   | (have := hi_128.mpr z1; omega)
                   | omega
                 have hlt : c + 1 < cs := by
                   rcases (show c + 1 < cs ∨ c + 1 = cs by omega) with q | q
                   · exact q
                   · exact absurd (q ▸ hcs) hng
                 refine ih _ (by omega) (c + 1) cs _ _ rfl (by omega) hlt hcs (fun x hx => ?_)
                 by_cases e : x = c + 1
                 · subst e; exact hng
                 · exact hno x (by omega))
              | (have hok := hi_128.mp (by omega)
                 have z3 := hVF hok
                 have hg : gdc (dM g s) (bV (dM g s) ((g 21 0).toNat - 2 - i) (i + 1)) i sp L ah ow (c + 1) := hgd.mpr ⟨hok, by omega⟩
                 refine j_iload C dX5_best_112 rfl ?_
                 refine j_if_ne C (tgt := 250) dX5_best_114 (by decide) (by first | omega | (refine ⟨?_, ?_⟩ <;> omega) | exact hw _ _ | exact nrm_R _) (fun c_114 => ?_) (fun c_114 => ?_)
                 · exact kk (c + 1) _ ⟨hg, fun x hx => hno x (by omega)⟩
                 · exact absurd c_114 (by first | omega | (refine ⟨?_, ?_⟩ <;> omega) | exact hw _ _ | exact nrm_R _))
            · refine j_iload C dX5_best_234 rfl ?_
              refine j_iload_n C dX5_best_236 rfl ?_
              refine j_icmp_gt C (tgt := 244) dX5_best_237 (by decide) (by first | omega | (refine ⟨?_, ?_⟩ <;> omega) | exact hw _ _ | exact nrm_R _) (by first | omega | (refine ⟨?_, ?_⟩ <;> omega) | exact hw _ _ | exact nrm_R _) (fun c_237 => ?_) (fun c_237 => ?_)
              · refine j_iconst C dX5_best_244 ?_
                refine j_istore C dX5_best_245 (Nat.le_of_ble_eq_true rfl) ?_
                dsimp only [List.set]
                refine j_goto C (tgt := 112) dX5_best_247 (by decide) ?_
                first
                | (exfalso; omega)
                | (have hng : ¬ gdc (dM g s) (bV (dM g s) ((g 21 0).toNat - 2 - i) (i + 1)) i sp L ah ow (c + 1) := fun z => by
                     obtain ⟨z1, z2⟩ := hgd.mp z
                     have z3 := hVF z1
                     first
                     | (have := hi_128.mpr z1; omega)
                     | omega
                   have hlt : c + 1 < cs := by
                     rcases (show c + 1 < cs ∨ c + 1 = cs by omega) with q | q
                     · exact q
                     · exact absurd (q ▸ hcs) hng
                   refine ih _ (by omega) (c + 1) cs _ _ rfl (by omega) hlt hcs (fun x hx => ?_)
                   by_cases e : x = c + 1
                   · subst e; exact hng
                   · exact hno x (by omega))
                | (have hok := hi_128.mp (by omega)
                   have z3 := hVF hok
                   have hg : gdc (dM g s) (bV (dM g s) ((g 21 0).toNat - 2 - i) (i + 1)) i sp L ah ow (c + 1) := hgd.mpr ⟨hok, by omega⟩
                   refine j_iload C dX5_best_112 rfl ?_
                   refine j_if_ne C (tgt := 250) dX5_best_114 (by decide) (by first | omega | (refine ⟨?_, ?_⟩ <;> omega) | exact hw _ _ | exact nrm_R _) (fun c_114 => ?_) (fun c_114 => ?_)
                   · exact kk (c + 1) _ ⟨hg, fun x hx => hno x (by omega)⟩
                   · exact absurd c_114 (by first | omega | (refine ⟨?_, ?_⟩ <;> omega) | exact hw _ _ | exact nrm_R _))
              · refine j_iconst C dX5_best_240 ?_
                refine j_goto C (tgt := 245) dX5_best_241 (by decide) ?_
                refine j_istore C dX5_best_245 (Nat.le_of_ble_eq_true rfl) ?_
                dsimp only [List.set]
                refine j_goto C (tgt := 112) dX5_best_247 (by decide) ?_
                first
                | (exfalso; omega)
                | (have hng : ¬ gdc (dM g s) (bV (dM g s) ((g 21 0).toNat - 2 - i) (i + 1)) i sp L ah ow (c + 1) := fun z => by
                     obtain ⟨z1, z2⟩ := hgd.mp z
                     have z3 := hVF z1
                     first
                     | (have := hi_128.mpr z1; omega)
                     | omega
                   have hlt : c + 1 < cs := by
                     rcases (show c + 1 < cs ∨ c + 1 = cs by omega) with q | q
                     · exact q
                     · exact absurd (q ▸ hcs) hng
                   refine ih _ (by omega) (c + 1) cs _ _ rfl (by omega) hlt hcs (fun x hx => ?_)
                   by_cases e : x = c + 1
                   · subst e; exact hng
                   · exact hno x (by omega))
                | (have hok := hi_128.mp (by omega)
                   have z3 := hVF hok
                   have hg : gdc (dM g s) (bV (dM g s) ((g 21 0).toNat - 2 - i) (i + 1)) i sp L ah ow (c + 1) := hgd.mpr ⟨hok, by omega⟩
                   refine j_iload C dX5_best_112 rfl ?_
                   refine j_if_ne C (tgt := 250) dX5_best_114 (by decide) (by first | omega | (refine ⟨?_, ?_⟩ <;> omega) | exact hw _ _ | exact nrm_R _) (fun c_114 => ?_) (fun c_114 => ?_)
                   · exact kk (c + 1) _ ⟨hg, fun x hx => hno x (by omega)⟩
                   · exact absurd c_114 (by first | omega | (refine ⟨?_, ?_⟩ <;> omega) | exact hw _ _ | exact nrm_R _))
          · refine j_iload C dX5_best_215 rfl ?_
            refine j_iload C dX5_best_217 rfl ?_
            refine j_iadd C dX5_best_219 ?_
            refine j_iload C dX5_best_220 rfl ?_
            refine j_icmp_ne C (tgt := 244) dX5_best_222 (by decide) (by first | omega | (refine ⟨?_, ?_⟩ <;> omega) | exact hw _ _ | exact nrm_R _) (by first | omega | (refine ⟨?_, ?_⟩ <;> omega) | exact hw _ _ | exact nrm_R _) (fun c_222 => ?_) (fun c_222 => ?_)
            · refine j_iconst C dX5_best_244 ?_
              refine j_istore C dX5_best_245 (Nat.le_of_ble_eq_true rfl) ?_
              dsimp only [List.set]
              refine j_goto C (tgt := 112) dX5_best_247 (by decide) ?_
              first
              | (exfalso; omega)
              | (have hng : ¬ gdc (dM g s) (bV (dM g s) ((g 21 0).toNat - 2 - i) (i + 1)) i sp L ah ow (c + 1) := fun z => by
                   obtain ⟨z1, z2⟩ := hgd.mp z
                   have z3 := hVF z1
                   first
                   | (have := hi_128.mpr z1; omega)
                   | omega
                 have hlt : c + 1 < cs := by
                   rcases (show c + 1 < cs ∨ c + 1 = cs by omega) with q | q
                   · exact q
                   · exact absurd (q ▸ hcs) hng
                 refine ih _ (by omega) (c + 1) cs _ _ rfl (by omega) hlt hcs (fun x hx => ?_)
                 by_cases e : x = c + 1
                 · subst e; exact hng
                 · exact hno x (by omega))
              | (have hok := hi_128.mp (by omega)
                 have z3 := hVF hok
                 have hg : gdc (dM g s) (bV (dM g s) ((g 21 0).toNat - 2 - i) (i + 1)) i sp L ah ow (c + 1) := hgd.mpr ⟨hok, by omega⟩
                 refine j_iload C dX5_best_112 rfl ?_
                 refine j_if_ne C (tgt := 250) dX5_best_114 (by decide) (by first | omega | (refine ⟨?_, ?_⟩ <;> omega) | exact hw _ _ | exact nrm_R _) (fun c_114 => ?_) (fun c_114 => ?_)
                 · exact kk (c + 1) _ ⟨hg, fun x hx => hno x (by omega)⟩
                 · exact absurd c_114 (by first | omega | (refine ⟨?_, ?_⟩ <;> omega) | exact hw _ _ | exact nrm_R _))
            · refine j_goto C (tgt := 240) dX5_best_225 (by decide) ?_
              refine j_iconst C dX5_best_240 ?_
              refine j_goto C (tgt := 245) dX5_best_241 (by decide) ?_
              refine j_istore C dX5_best_245 (Nat.le_of_ble_eq_true rfl) ?_
              dsimp only [List.set]
              refine j_goto C (tgt := 112) dX5_best_247 (by decide) ?_
              first
              | (exfalso; omega)
              | (have hng : ¬ gdc (dM g s) (bV (dM g s) ((g 21 0).toNat - 2 - i) (i + 1)) i sp L ah ow (c + 1) := fun z => by
                   obtain ⟨z1, z2⟩ := hgd.mp z
                   have z3 := hVF z1
                   first
                   | (have := hi_128.mpr z1; omega)
                   | omega
                 have hlt : c + 1 < cs := by
                   rcases (show c + 1 < cs ∨ c + 1 = cs by omega) with q | q
                   · exact q
                   · exact absurd (q ▸ hcs) hng
                 refine ih _ (by omega) (c + 1) cs _ _ rfl (by omega) hlt hcs (fun x hx => ?_)
                 by_cases e : x = c + 1
                 · subst e; exact hng
                 · exact hno x (by omega))
              | (have hok := hi_128.mp (by omega)
                 have z3 := hVF hok
                 have hg : gdc (dM g s) (bV (dM g s) ((g 21 0).toNat - 2 - i) (i + 1)) i sp L ah ow (c + 1) := hgd.mpr ⟨hok, by omega⟩
                 refine j_iload C dX5_best_112 rfl ?_
                 refine j_if_ne C (tgt := 250) dX5_best_114 (by decide) (by first | omega | (refine ⟨?_, ?_⟩ <;> omega) | exact hw _ _ | exact nrm_R _) (fun c_114 => ?_) (fun c_114 => ?_)
                 · exact kk (c + 1) _ ⟨hg, fun x hx => hno x (by omega)⟩
                 · exact absurd c_114 (by first | omega | (refine ⟨?_, ?_⟩ <;> omega) | exact hw _ _ | exact nrm_R _))
      · refine j_iconst C dX5_best_190 ?_
        refine j_goto C (tgt := 196) dX5_best_191 (by decide) ?_
        refine j_iload C dX5_best_196 rfl ?_
        refine j_iadd C dX5_best_198 ?_
        refine j_imul C dX5_best_199 ?_
        refine j_iadd C dX5_best_200 ?_
        first | rw [eo1 c_187] | rw [eo2 c_187]
        refine j_callSi1 C vX5_best_99 rfl (Nat.le_of_ble_eq_true rfl) ⟨Nat.zero_le _, Nat.zero_le _⟩ dX5_best_201 (ct_X5_size ⟨by omega, by omega⟩) (fun x_201 g_201 hk_201 => ?_)
        obtain ⟨e_201, rfl⟩ := hk_201
        have e_201 := e_201.symm
        subst e_201
        rw [← hE]
        refine j_istore C dX5_best_204 (Nat.le_of_ble_eq_true rfl) ?_
        dsimp only [List.set]
        refine j_iload C dX5_best_206 rfl ?_
        refine j_if_lt C (tgt := 244) dX5_best_208 (by decide) (by first | omega | (refine ⟨?_, ?_⟩ <;> omega) | exact hw _ _ | exact nrm_R _) (fun c_208 => ?_) (fun c_208 => ?_)
        · refine j_iconst C dX5_best_244 ?_
          refine j_istore C dX5_best_245 (Nat.le_of_ble_eq_true rfl) ?_
          dsimp only [List.set]
          refine j_goto C (tgt := 112) dX5_best_247 (by decide) ?_
          first
          | (exfalso; omega)
          | (have hng : ¬ gdc (dM g s) (bV (dM g s) ((g 21 0).toNat - 2 - i) (i + 1)) i sp L ah ow (c + 1) := fun z => by
               obtain ⟨z1, z2⟩ := hgd.mp z
               have z3 := hVF z1
               first
               | (have := hi_128.mpr z1; omega)
               | omega
             have hlt : c + 1 < cs := by
               rcases (show c + 1 < cs ∨ c + 1 = cs by omega) with q | q
               · exact q
               · exact absurd (q ▸ hcs) hng
             refine ih _ (by omega) (c + 1) cs _ _ rfl (by omega) hlt hcs (fun x hx => ?_)
             by_cases e : x = c + 1
             · subst e; exact hng
             · exact hno x (by omega))
          | (have hok := hi_128.mp (by omega)
             have z3 := hVF hok
             have hg : gdc (dM g s) (bV (dM g s) ((g 21 0).toNat - 2 - i) (i + 1)) i sp L ah ow (c + 1) := hgd.mpr ⟨hok, by omega⟩
             refine j_iload C dX5_best_112 rfl ?_
             refine j_if_ne C (tgt := 250) dX5_best_114 (by decide) (by first | omega | (refine ⟨?_, ?_⟩ <;> omega) | exact hw _ _ | exact nrm_R _) (fun c_114 => ?_) (fun c_114 => ?_)
             · exact kk (c + 1) _ ⟨hg, fun x hx => hno x (by omega)⟩
             · exact absurd c_114 (by first | omega | (refine ⟨?_, ?_⟩ <;> omega) | exact hw _ _ | exact nrm_R _))
        · refine j_iload_n C dX5_best_211 rfl ?_
          refine j_if_ne C (tgt := 228) dX5_best_212 (by decide) (by first | omega | (refine ⟨?_, ?_⟩ <;> omega) | exact hw _ _ | exact nrm_R _) (fun c_212 => ?_) (fun c_212 => ?_)
          · refine j_iload C dX5_best_228 rfl ?_
            refine j_iload_n C dX5_best_230 rfl ?_
            refine j_icmp_gt C (tgt := 244) dX5_best_231 (by decide) (by first | omega | (refine ⟨?_, ?_⟩ <;> omega) | exact hw _ _ | exact nrm_R _) (by first | omega | (refine ⟨?_, ?_⟩ <;> omega) | exact hw _ _ | exact nrm_R _) (fun c_231 => ?_) (fun c_231 => ?_)
            · refine j_iconst C dX5_best_244 ?_
              refine j_istore C dX5_best_245 (Nat.le_of_ble_eq_true rfl) ?_
              dsimp only [List.set]
              refine j_goto C (tgt := 112) dX5_best_247 (by decide) ?_
              first
              | (exfalso; omega)
              | (have hng : ¬ gdc (dM g s) (bV (dM g s) ((g 21 0).toNat - 2 - i) (i + 1)) i sp L ah ow (c + 1) := fun z => by
                   obtain ⟨z1, z2⟩ := hgd.mp z
                   have z3 := hVF z1
                   first
                   | (have := hi_128.mpr z1; omega)
                   | omega
                 have hlt : c + 1 < cs := by
                   rcases (show c + 1 < cs ∨ c + 1 = cs by omega) with q | q
                   · exact q
                   · exact absurd (q ▸ hcs) hng
                 refine ih _ (by omega) (c + 1) cs _ _ rfl (by omega) hlt hcs (fun x hx => ?_)
                 by_cases e : x = c + 1
                 · subst e; exact hng
                 · exact hno x (by omega))
              | (have hok := hi_128.mp (by omega)
                 have z3 := hVF hok
                 have hg : gdc (dM g s) (bV (dM g s) ((g 21 0).toNat - 2 - i) (i + 1)) i sp L ah ow (c + 1) := hgd.mpr ⟨hok, by omega⟩
                 refine j_iload C dX5_best_112 rfl ?_
                 refine j_if_ne C (tgt := 250) dX5_best_114 (by decide) (by first | omega | (refine ⟨?_, ?_⟩ <;> omega) | exact hw _ _ | exact nrm_R _) (fun c_114 => ?_) (fun c_114 => ?_)
                 · exact kk (c + 1) _ ⟨hg, fun x hx => hno x (by omega)⟩
                 · exact absurd c_114 (by first | omega | (refine ⟨?_, ?_⟩ <;> omega) | exact hw _ _ | exact nrm_R _))
            · refine j_iload C dX5_best_234 rfl ?_
              refine j_iload_n C dX5_best_236 rfl ?_
              refine j_icmp_gt C (tgt := 244) dX5_best_237 (by decide) (by first | omega | (refine ⟨?_, ?_⟩ <;> omega) | exact hw _ _ | exact nrm_R _) (by first | omega | (refine ⟨?_, ?_⟩ <;> omega) | exact hw _ _ | exact nrm_R _) (fun c_237 => ?_) (fun c_237 => ?_)
              · refine j_iconst C dX5_best_244 ?_
                refine j_istore C dX5_best_245 (Nat.le_of_ble_eq_true rfl) ?_
                dsimp only [List.set]
                refine j_goto C (tgt := 112) dX5_best_247 (by decide) ?_
                first
                | (exfalso; omega)
                | (have hng : ¬ gdc (dM g s) (bV (dM g s) ((g 21 0).toNat - 2 - i) (i + 1)) i sp L ah ow (c + 1) := fun z => by
                     obtain ⟨z1, z2⟩ := hgd.mp z
                     have z3 := hVF z1
                     first
                     | (have := hi_128.mpr z1; omega)
                     | omega
                   have hlt : c + 1 < cs := by
                     rcases (show c + 1 < cs ∨ c + 1 = cs by omega) with q | q
                     · exact q
                     · exact absurd (q ▸ hcs) hng
                   refine ih _ (by omega) (c + 1) cs _ _ rfl (by omega) hlt hcs (fun x hx => ?_)
                   by_cases e : x = c + 1
                   · subst e; exact hng
                   · exact hno x (by omega))
                | (have hok := hi_128.mp (by omega)
                   have z3 := hVF hok
                   have hg : gdc (dM g s) (bV (dM g s) ((g 21 0).toNat - 2 - i) (i + 1)) i sp L ah ow (c + 1) := hgd.mpr ⟨hok, by omega⟩
                   refine j_iload C dX5_best_112 rfl ?_
                   refine j_if_ne C (tgt := 250) dX5_best_114 (by decide) (by first | omega | (refine ⟨?_, ?_⟩ <;> omega) | exact hw _ _ | exact nrm_R _) (fun c_114 => ?_) (fun c_114 => ?_)
                   · exact kk (c + 1) _ ⟨hg, fun x hx => hno x (by omega)⟩
                   · exact absurd c_114 (by first | omega | (refine ⟨?_, ?_⟩ <;> omega) | exact hw _ _ | exact nrm_R _))
              · refine j_iconst C dX5_best_240 ?_
                refine j_goto C (tgt := 245) dX5_best_241 (by decide) ?_
                refine j_istore C dX5_best_245 (Nat.le_of_ble_eq_true rfl) ?_
                dsimp only [List.set]
                refine j_goto C (tgt := 112) dX5_best_247 (by decide) ?_
                first
                | (exfalso; omega)
                | (have hng : ¬ gdc (dM g s) (bV (dM g s) ((g 21 0).toNat - 2 - i) (i + 1)) i sp L ah ow (c + 1) := fun z => by
                     obtain ⟨z1, z2⟩ := hgd.mp z
                     have z3 := hVF z1
                     first
                     | (have := hi_128.mpr z1; omega)
                     | omega
                   have hlt : c + 1 < cs := by
                     rcases (show c + 1 < cs ∨ c + 1 = cs by omega) with q | q
                     · exact q
                     · exact absurd (q ▸ hcs) hng
                   refine ih _ (by omega) (c + 1) cs _ _ rfl (by omega) hlt hcs (fun x hx => ?_)
                   by_cases e : x = c + 1
                   · subst e; exact hng
                   · exact hno x (by omega))
                | (have hok := hi_128.mp (by omega)
                   have z3 := hVF hok
                   have hg : gdc (dM g s) (bV (dM g s) ((g 21 0).toNat - 2 - i) (i + 1)) i sp L ah ow (c + 1) := hgd.mpr ⟨hok, by omega⟩
                   refine j_iload C dX5_best_112 rfl ?_
                   refine j_if_ne C (tgt := 250) dX5_best_114 (by decide) (by first | omega | (refine ⟨?_, ?_⟩ <;> omega) | exact hw _ _ | exact nrm_R _) (fun c_114 => ?_) (fun c_114 => ?_)
                   · exact kk (c + 1) _ ⟨hg, fun x hx => hno x (by omega)⟩
                   · exact absurd c_114 (by first | omega | (refine ⟨?_, ?_⟩ <;> omega) | exact hw _ _ | exact nrm_R _))
          · refine j_iload C dX5_best_215 rfl ?_
            refine j_iload C dX5_best_217 rfl ?_
            refine j_iadd C dX5_best_219 ?_
            refine j_iload C dX5_best_220 rfl ?_
            refine j_icmp_ne C (tgt := 244) dX5_best_222 (by decide) (by first | omega | (refine ⟨?_, ?_⟩ <;> omega) | exact hw _ _ | exact nrm_R _) (by first | omega | (refine ⟨?_, ?_⟩ <;> omega) | exact hw _ _ | exact nrm_R _) (fun c_222 => ?_) (fun c_222 => ?_)
            · refine j_iconst C dX5_best_244 ?_
              refine j_istore C dX5_best_245 (Nat.le_of_ble_eq_true rfl) ?_
              dsimp only [List.set]
              refine j_goto C (tgt := 112) dX5_best_247 (by decide) ?_
              first
              | (exfalso; omega)
              | (have hng : ¬ gdc (dM g s) (bV (dM g s) ((g 21 0).toNat - 2 - i) (i + 1)) i sp L ah ow (c + 1) := fun z => by
                   obtain ⟨z1, z2⟩ := hgd.mp z
                   have z3 := hVF z1
                   first
                   | (have := hi_128.mpr z1; omega)
                   | omega
                 have hlt : c + 1 < cs := by
                   rcases (show c + 1 < cs ∨ c + 1 = cs by omega) with q | q
                   · exact q
                   · exact absurd (q ▸ hcs) hng
                 refine ih _ (by omega) (c + 1) cs _ _ rfl (by omega) hlt hcs (fun x hx => ?_)
                 by_cases e : x = c + 1
                 · subst e; exact hng
                 · exact hno x (by omega))
              | (have hok := hi_128.mp (by omega)
                 have z3 := hVF hok
                 have hg : gdc (dM g s) (bV (dM g s) ((g 21 0).toNat - 2 - i) (i + 1)) i sp L ah ow (c + 1) := hgd.mpr ⟨hok, by omega⟩
                 refine j_iload C dX5_best_112 rfl ?_
                 refine j_if_ne C (tgt := 250) dX5_best_114 (by decide) (by first | omega | (refine ⟨?_, ?_⟩ <;> omega) | exact hw _ _ | exact nrm_R _) (fun c_114 => ?_) (fun c_114 => ?_)
                 · exact kk (c + 1) _ ⟨hg, fun x hx => hno x (by omega)⟩
                 · exact absurd c_114 (by first | omega | (refine ⟨?_, ?_⟩ <;> omega) | exact hw _ _ | exact nrm_R _))
            · refine j_goto C (tgt := 240) dX5_best_225 (by decide) ?_
              refine j_iconst C dX5_best_240 ?_
              refine j_goto C (tgt := 245) dX5_best_241 (by decide) ?_
              refine j_istore C dX5_best_245 (Nat.le_of_ble_eq_true rfl) ?_
              dsimp only [List.set]
              refine j_goto C (tgt := 112) dX5_best_247 (by decide) ?_
              first
              | (exfalso; omega)
              | (have hng : ¬ gdc (dM g s) (bV (dM g s) ((g 21 0).toNat - 2 - i) (i + 1)) i sp L ah ow (c + 1) := fun z => by
                   obtain ⟨z1, z2⟩ := hgd.mp z
                   have z3 := hVF z1
                   first
                   | (have := hi_128.mpr z1; omega)
                   | omega
                 have hlt : c + 1 < cs := by
                   rcases (show c + 1 < cs ∨ c + 1 = cs by omega) with q | q
                   · exact q
                   · exact absurd (q ▸ hcs) hng
                 refine ih _ (by omega) (c + 1) cs _ _ rfl (by omega) hlt hcs (fun x hx => ?_)
                 by_cases e : x = c + 1
                 · subst e; exact hng
                 · exact hno x (by omega))
              | (have hok := hi_128.mp (by omega)
                 have z3 := hVF hok
                 have hg : gdc (dM g s) (bV (dM g s) ((g 21 0).toNat - 2 - i) (i + 1)) i sp L ah ow (c + 1) := hgd.mpr ⟨hok, by omega⟩
                 refine j_iload C dX5_best_112 rfl ?_
                 refine j_if_ne C (tgt := 250) dX5_best_114 (by decide) (by first | omega | (refine ⟨?_, ?_⟩ <;> omega) | exact hw _ _ | exact nrm_R _) (fun c_114 => ?_) (fun c_114 => ?_)
                 · exact kk (c + 1) _ ⟨hg, fun x hx => hno x (by omega)⟩
                 · exact absurd c_114 (by first | omega | (refine ⟨?_, ?_⟩ <;> omega) | exact hw _ _ | exact nrm_R _))
    · refine j_aload_n C dX5_best_134 rfl ?_
      refine j_getR C fX5_best_60 rfl rfl dX5_best_135 ?_
      refine j_sipush C dX5_best_138 (by decide +kernel) ?_
      refine j_iload C dX5_best_141 rfl ?_
      refine j_iconst C dX5_best_143 ?_
      refine j_iadd C dX5_best_144 ?_
      refine j_imul C dX5_best_145 ?_
      refine j_bipush C dX5_best_146 (by decide +kernel) ?_
      refine j_iload_n C dX5_best_148 rfl ?_
      refine j_bipush C dX5_best_149 (by decide +kernel) ?_
      refine j_iadd C dX5_best_151 ?_
      refine j_imul C dX5_best_152 ?_
      refine j_iadd C dX5_best_153 ?_
      refine j_iload C dX5_best_154 rfl ?_
      refine j_iadd C dX5_best_156 ?_
      refine j_bipush C dX5_best_157 (by decide +kernel) ?_
      refine j_iadd C dX5_best_159 ?_
      refine j_iaload C rfl (by decide) dX5_best_160 (by first | omega | (refine ⟨?_, ?_⟩ <;> omega) | exact hw _ _ | exact nrm_R _) (by first | omega | (refine ⟨?_, ?_⟩ <;> omega) | exact hw _ _ | exact nrm_R _) ?_
      rw [eix, hTc]
      refine j_goto C (tgt := 165) dX5_best_161 (by decide) ?_
      refine j_istore C dX5_best_165 (Nat.le_of_ble_eq_true rfl) ?_
      dsimp only [List.set]
      refine j_aload_n C dX5_best_167 rfl ?_
      refine j_getR C fX5_best_33 rfl rfl dX5_best_168 ?_
      refine j_iload C dX5_best_171 rfl ?_
      refine j_iaload C rfl (by decide) dX5_best_173 (by first | omega | (refine ⟨?_, ?_⟩ <;> omega) | exact hw _ _ | exact nrm_R _) (by first | omega | (refine ⟨?_, ?_⟩ <;> omega) | exact hw _ _ | exact nrm_R _) ?_
      refine j_aload_n C dX5_best_174 rfl ?_
      refine j_getI C fX5_best_45 rfl rfl dX5_best_175 ?_
      refine j_iload_n C dX5_best_178 rfl ?_
      refine j_imul C dX5_best_179 ?_
      refine j_iadd C dX5_best_180 ?_
      refine j_aload_n C dX5_best_181 rfl ?_
      refine j_getI C fX5_best_106 rfl rfl dX5_best_182 ?_
      refine j_iload C dX5_best_185 rfl ?_
      refine j_if_ne C (tgt := 194) dX5_best_187 (by decide) (by first | omega | (refine ⟨?_, ?_⟩ <;> omega) | exact hw _ _ | exact nrm_R _) (fun c_187 => ?_) (fun c_187 => ?_)
      · refine j_iload C dX5_best_194 rfl ?_
        refine j_iload C dX5_best_196 rfl ?_
        refine j_iadd C dX5_best_198 ?_
        refine j_imul C dX5_best_199 ?_
        refine j_iadd C dX5_best_200 ?_
        first | rw [eo1 c_187] | rw [eo2 c_187]
        refine j_callSi1 C vX5_best_99 rfl (Nat.le_of_ble_eq_true rfl) ⟨Nat.zero_le _, Nat.zero_le _⟩ dX5_best_201 (ct_X5_size ⟨by omega, by omega⟩) (fun x_201 g_201 hk_201 => ?_)
        obtain ⟨e_201, rfl⟩ := hk_201
        have e_201 := e_201.symm
        subst e_201
        rw [← hE]
        refine j_istore C dX5_best_204 (Nat.le_of_ble_eq_true rfl) ?_
        dsimp only [List.set]
        refine j_iload C dX5_best_206 rfl ?_
        refine j_if_lt C (tgt := 244) dX5_best_208 (by decide) (by first | omega | (refine ⟨?_, ?_⟩ <;> omega) | exact hw _ _ | exact nrm_R _) (fun c_208 => ?_) (fun c_208 => ?_)
        · refine j_iconst C dX5_best_244 ?_
          refine j_istore C dX5_best_245 (Nat.le_of_ble_eq_true rfl) ?_
          dsimp only [List.set]
          refine j_goto C (tgt := 112) dX5_best_247 (by decide) ?_
          first
          | (exfalso; omega)
          | (have hng : ¬ gdc (dM g s) (bV (dM g s) ((g 21 0).toNat - 2 - i) (i + 1)) i sp L ah ow (c + 1) := fun z => by
               obtain ⟨z1, z2⟩ := hgd.mp z
               have z3 := hVF z1
               first
               | (have := hi_128.mpr z1; omega)
               | omega
             have hlt : c + 1 < cs := by
               rcases (show c + 1 < cs ∨ c + 1 = cs by omega) with q | q
               · exact q
               · exact absurd (q ▸ hcs) hng
             refine ih _ (by omega) (c + 1) cs _ _ rfl (by omega) hlt hcs (fun x hx => ?_)
             by_cases e : x = c + 1
             · subst e; exact hng
             · exact hno x (by omega))
          | (have hok := hi_128.mp (by omega)
             have z3 := hVF hok
             have hg : gdc (dM g s) (bV (dM g s) ((g 21 0).toNat - 2 - i) (i + 1)) i sp L ah ow (c + 1) := hgd.mpr ⟨hok, by omega⟩
             refine j_iload C dX5_best_112 rfl ?_
             refine j_if_ne C (tgt := 250) dX5_best_114 (by decide) (by first | omega | (refine ⟨?_, ?_⟩ <;> omega) | exact hw _ _ | exact nrm_R _) (fun c_114 => ?_) (fun c_114 => ?_)
             · exact kk (c + 1) _ ⟨hg, fun x hx => hno x (by omega)⟩
             · exact absurd c_114 (by first | omega | (refine ⟨?_, ?_⟩ <;> omega) | exact hw _ _ | exact nrm_R _))
        · refine j_iload_n C dX5_best_211 rfl ?_
          refine j_if_ne C (tgt := 228) dX5_best_212 (by decide) (by first | omega | (refine ⟨?_, ?_⟩ <;> omega) | exact hw _ _ | exact nrm_R _) (fun c_212 => ?_) (fun c_212 => ?_)
          · refine j_iload C dX5_best_228 rfl ?_
            refine j_iload_n C dX5_best_230 rfl ?_
            refine j_icmp_gt C (tgt := 244) dX5_best_231 (by decide) (by first | omega | (refine ⟨?_, ?_⟩ <;> omega) | exact hw _ _ | exact nrm_R _) (by first | omega | (refine ⟨?_, ?_⟩ <;> omega) | exact hw _ _ | exact nrm_R _) (fun c_231 => ?_) (fun c_231 => ?_)
            · refine j_iconst C dX5_best_244 ?_
              refine j_istore C dX5_best_245 (Nat.le_of_ble_eq_true rfl) ?_
              dsimp only [List.set]
              refine j_goto C (tgt := 112) dX5_best_247 (by decide) ?_
              first
              | (exfalso; omega)
              | (have hng : ¬ gdc (dM g s) (bV (dM g s) ((g 21 0).toNat - 2 - i) (i + 1)) i sp L ah ow (c + 1) := fun z => by
                   obtain ⟨z1, z2⟩ := hgd.mp z
                   have z3 := hVF z1
                   first
                   | (have := hi_128.mpr z1; omega)
                   | omega
                 have hlt : c + 1 < cs := by
                   rcases (show c + 1 < cs ∨ c + 1 = cs by omega) with q | q
                   · exact q
                   · exact absurd (q ▸ hcs) hng
                 refine ih _ (by omega) (c + 1) cs _ _ rfl (by omega) hlt hcs (fun x hx => ?_)
                 by_cases e : x = c + 1
                 · subst e; exact hng
                 · exact hno x (by omega))
              | (have hok := hi_128.mp (by omega)
                 have z3 := hVF hok
                 have hg : gdc (dM g s) (bV (dM g s) ((g 21 0).toNat - 2 - i) (i + 1)) i sp L ah ow (c + 1) := hgd.mpr ⟨hok, by omega⟩
                 refine j_iload C dX5_best_112 rfl ?_
                 refine j_if_ne C (tgt := 250) dX5_best_114 (by decide) (by first | omega | (refine ⟨?_, ?_⟩ <;> omega) | exact hw _ _ | exact nrm_R _) (fun c_114 => ?_) (fun c_114 => ?_)
                 · exact kk (c + 1) _ ⟨hg, fun x hx => hno x (by omega)⟩
                 · exact absurd c_114 (by first | omega | (refine ⟨?_, ?_⟩ <;> omega) | exact hw _ _ | exact nrm_R _))
            · refine j_iload C dX5_best_234 rfl ?_
              refine j_iload_n C dX5_best_236 rfl ?_
              refine j_icmp_gt C (tgt := 244) dX5_best_237 (by decide) (by first | omega | (refine ⟨?_, ?_⟩ <;> omega) | exact hw _ _ | exact nrm_R _) (by first | omega | (refine ⟨?_, ?_⟩ <;> omega) | exact hw _ _ | exact nrm_R _) (fun c_237 => ?_) (fun c_237 => ?_)
              · refine j_iconst C dX5_best_244 ?_
                refine j_istore C dX5_best_245 (Nat.le_of_ble_eq_true rfl) ?_
                dsimp only [List.set]
                refine j_goto C (tgt := 112) dX5_best_247 (by decide) ?_
                first
                | (exfalso; omega)
                | (have hng : ¬ gdc (dM g s) (bV (dM g s) ((g 21 0).toNat - 2 - i) (i + 1)) i sp L ah ow (c + 1) := fun z => by
                     obtain ⟨z1, z2⟩ := hgd.mp z
                     have z3 := hVF z1
                     first
                     | (have := hi_128.mpr z1; omega)
                     | omega
                   have hlt : c + 1 < cs := by
                     rcases (show c + 1 < cs ∨ c + 1 = cs by omega) with q | q
                     · exact q
                     · exact absurd (q ▸ hcs) hng
                   refine ih _ (by omega) (c + 1) cs _ _ rfl (by omega) hlt hcs (fun x hx => ?_)
                   by_cases e : x = c + 1
                   · subst e; exact hng
                   · exact hno x (by omega))
                | (have hok := hi_128.mp (by omega)
                   have z3 := hVF hok
                   have hg : gdc (dM g s) (bV (dM g s) ((g 21 0).toNat - 2 - i) (i + 1)) i sp L ah ow (c + 1) := hgd.mpr ⟨hok, by omega⟩
                   refine j_iload C dX5_best_112 rfl ?_
                   refine j_if_ne C (tgt := 250) dX5_best_114 (by decide) (by first | omega | (refine ⟨?_, ?_⟩ <;> omega) | exact hw _ _ | exact nrm_R _) (fun c_114 => ?_) (fun c_114 => ?_)
                   · exact kk (c + 1) _ ⟨hg, fun x hx => hno x (by omega)⟩
                   · exact absurd c_114 (by first | omega | (refine ⟨?_, ?_⟩ <;> omega) | exact hw _ _ | exact nrm_R _))
              · refine j_iconst C dX5_best_240 ?_
                refine j_goto C (tgt := 245) dX5_best_241 (by decide) ?_
                refine j_istore C dX5_best_245 (Nat.le_of_ble_eq_true rfl) ?_
                dsimp only [List.set]
                refine j_goto C (tgt := 112) dX5_best_247 (by decide) ?_
                first
                | (exfalso; omega)
                | (have hng : ¬ gdc (dM g s) (bV (dM g s) ((g 21 0).toNat - 2 - i) (i + 1)) i sp L ah ow (c + 1) := fun z => by
                     obtain ⟨z1, z2⟩ := hgd.mp z
                     have z3 := hVF z1
                     first
                     | (have := hi_128.mpr z1; omega)
                     | omega
                   have hlt : c + 1 < cs := by
                     rcases (show c + 1 < cs ∨ c + 1 = cs by omega) with q | q
                     · exact q
                     · exact absurd (q ▸ hcs) hng
                   refine ih _ (by omega) (c + 1) cs _ _ rfl (by omega) hlt hcs (fun x hx => ?_)
                   by_cases e : x = c + 1
                   · subst e; exact hng
                   · exact hno x (by omega))
                | (have hok := hi_128.mp (by omega)
                   have z3 := hVF hok
                   have hg : gdc (dM g s) (bV (dM g s) ((g 21 0).toNat - 2 - i) (i + 1)) i sp L ah ow (c + 1) := hgd.mpr ⟨hok, by omega⟩
                   refine j_iload C dX5_best_112 rfl ?_
                   refine j_if_ne C (tgt := 250) dX5_best_114 (by decide) (by first | omega | (refine ⟨?_, ?_⟩ <;> omega) | exact hw _ _ | exact nrm_R _) (fun c_114 => ?_) (fun c_114 => ?_)
                   · exact kk (c + 1) _ ⟨hg, fun x hx => hno x (by omega)⟩
                   · exact absurd c_114 (by first | omega | (refine ⟨?_, ?_⟩ <;> omega) | exact hw _ _ | exact nrm_R _))
          · refine j_iload C dX5_best_215 rfl ?_
            refine j_iload C dX5_best_217 rfl ?_
            refine j_iadd C dX5_best_219 ?_
            refine j_iload C dX5_best_220 rfl ?_
            refine j_icmp_ne C (tgt := 244) dX5_best_222 (by decide) (by first | omega | (refine ⟨?_, ?_⟩ <;> omega) | exact hw _ _ | exact nrm_R _) (by first | omega | (refine ⟨?_, ?_⟩ <;> omega) | exact hw _ _ | exact nrm_R _) (fun c_222 => ?_) (fun c_222 => ?_)
            · refine j_iconst C dX5_best_244 ?_
              refine j_istore C dX5_best_245 (Nat.le_of_ble_eq_true rfl) ?_
              dsimp only [List.set]
              refine j_goto C (tgt := 112) dX5_best_247 (by decide) ?_
              first
              | (exfalso; omega)
              | (have hng : ¬ gdc (dM g s) (bV (dM g s) ((g 21 0).toNat - 2 - i) (i + 1)) i sp L ah ow (c + 1) := fun z => by
                   obtain ⟨z1, z2⟩ := hgd.mp z
                   have z3 := hVF z1
                   first
                   | (have := hi_128.mpr z1; omega)
                   | omega
                 have hlt : c + 1 < cs := by
                   rcases (show c + 1 < cs ∨ c + 1 = cs by omega) with q | q
                   · exact q
                   · exact absurd (q ▸ hcs) hng
                 refine ih _ (by omega) (c + 1) cs _ _ rfl (by omega) hlt hcs (fun x hx => ?_)
                 by_cases e : x = c + 1
                 · subst e; exact hng
                 · exact hno x (by omega))
              | (have hok := hi_128.mp (by omega)
                 have z3 := hVF hok
                 have hg : gdc (dM g s) (bV (dM g s) ((g 21 0).toNat - 2 - i) (i + 1)) i sp L ah ow (c + 1) := hgd.mpr ⟨hok, by omega⟩
                 refine j_iload C dX5_best_112 rfl ?_
                 refine j_if_ne C (tgt := 250) dX5_best_114 (by decide) (by first | omega | (refine ⟨?_, ?_⟩ <;> omega) | exact hw _ _ | exact nrm_R _) (fun c_114 => ?_) (fun c_114 => ?_)
                 · exact kk (c + 1) _ ⟨hg, fun x hx => hno x (by omega)⟩
                 · exact absurd c_114 (by first | omega | (refine ⟨?_, ?_⟩ <;> omega) | exact hw _ _ | exact nrm_R _))
            · refine j_goto C (tgt := 240) dX5_best_225 (by decide) ?_
              refine j_iconst C dX5_best_240 ?_
              refine j_goto C (tgt := 245) dX5_best_241 (by decide) ?_
              refine j_istore C dX5_best_245 (Nat.le_of_ble_eq_true rfl) ?_
              dsimp only [List.set]
              refine j_goto C (tgt := 112) dX5_best_247 (by decide) ?_
              first
              | (exfalso; omega)
              | (have hng : ¬ gdc (dM g s) (bV (dM g s) ((g 21 0).toNat - 2 - i) (i + 1)) i sp L ah ow (c + 1) := fun z => by
                   obtain ⟨z1, z2⟩ := hgd.mp z
                   have z3 := hVF z1
                   first
                   | (have := hi_128.mpr z1; omega)
                   | omega
                 have hlt : c + 1 < cs := by
                   rcases (show c + 1 < cs ∨ c + 1 = cs by omega) with q | q
                   · exact q
                   · exact absurd (q ▸ hcs) hng
                 refine ih _ (by omega) (c + 1) cs _ _ rfl (by omega) hlt hcs (fun x hx => ?_)
                 by_cases e : x = c + 1
                 · subst e; exact hng
                 · exact hno x (by omega))
              | (have hok := hi_128.mp (by omega)
                 have z3 := hVF hok
                 have hg : gdc (dM g s) (bV (dM g s) ((g 21 0).toNat - 2 - i) (i + 1)) i sp L ah ow (c + 1) := hgd.mpr ⟨hok, by omega⟩
                 refine j_iload C dX5_best_112 rfl ?_
                 refine j_if_ne C (tgt := 250) dX5_best_114 (by decide) (by first | omega | (refine ⟨?_, ?_⟩ <;> omega) | exact hw _ _ | exact nrm_R _) (fun c_114 => ?_) (fun c_114 => ?_)
                 · exact kk (c + 1) _ ⟨hg, fun x hx => hno x (by omega)⟩
                 · exact absurd c_114 (by first | omega | (refine ⟨?_, ?_⟩ <;> omega) | exact hw _ _ | exact nrm_R _))
      · refine j_iconst C dX5_best_190 ?_
        refine j_goto C (tgt := 196) dX5_best_191 (by decide) ?_
        refine j_iload C dX5_best_196 rfl ?_
        refine j_iadd C dX5_best_198 ?_
        refine j_imul C dX5_best_199 ?_
        refine j_iadd C dX5_best_200 ?_
        first | rw [eo1 c_187] | rw [eo2 c_187]
        refine j_callSi1 C vX5_best_99 rfl (Nat.le_of_ble_eq_true rfl) ⟨Nat.zero_le _, Nat.zero_le _⟩ dX5_best_201 (ct_X5_size ⟨by omega, by omega⟩) (fun x_201 g_201 hk_201 => ?_)
        obtain ⟨e_201, rfl⟩ := hk_201
        have e_201 := e_201.symm
        subst e_201
        rw [← hE]
        refine j_istore C dX5_best_204 (Nat.le_of_ble_eq_true rfl) ?_
        dsimp only [List.set]
        refine j_iload C dX5_best_206 rfl ?_
        refine j_if_lt C (tgt := 244) dX5_best_208 (by decide) (by first | omega | (refine ⟨?_, ?_⟩ <;> omega) | exact hw _ _ | exact nrm_R _) (fun c_208 => ?_) (fun c_208 => ?_)
        · refine j_iconst C dX5_best_244 ?_
          refine j_istore C dX5_best_245 (Nat.le_of_ble_eq_true rfl) ?_
          dsimp only [List.set]
          refine j_goto C (tgt := 112) dX5_best_247 (by decide) ?_
          first
          | (exfalso; omega)
          | (have hng : ¬ gdc (dM g s) (bV (dM g s) ((g 21 0).toNat - 2 - i) (i + 1)) i sp L ah ow (c + 1) := fun z => by
               obtain ⟨z1, z2⟩ := hgd.mp z
               have z3 := hVF z1
               first
               | (have := hi_128.mpr z1; omega)
               | omega
             have hlt : c + 1 < cs := by
               rcases (show c + 1 < cs ∨ c + 1 = cs by omega) with q | q
               · exact q
               · exact absurd (q ▸ hcs) hng
             refine ih _ (by omega) (c + 1) cs _ _ rfl (by omega) hlt hcs (fun x hx => ?_)
             by_cases e : x = c + 1
             · subst e; exact hng
             · exact hno x (by omega))
          | (have hok := hi_128.mp (by omega)
             have z3 := hVF hok
             have hg : gdc (dM g s) (bV (dM g s) ((g 21 0).toNat - 2 - i) (i + 1)) i sp L ah ow (c + 1) := hgd.mpr ⟨hok, by omega⟩
             refine j_iload C dX5_best_112 rfl ?_
             refine j_if_ne C (tgt := 250) dX5_best_114 (by decide) (by first | omega | (refine ⟨?_, ?_⟩ <;> omega) | exact hw _ _ | exact nrm_R _) (fun c_114 => ?_) (fun c_114 => ?_)
             · exact kk (c + 1) _ ⟨hg, fun x hx => hno x (by omega)⟩
             · exact absurd c_114 (by first | omega | (refine ⟨?_, ?_⟩ <;> omega) | exact hw _ _ | exact nrm_R _))
        · refine j_iload_n C dX5_best_211 rfl ?_
          refine j_if_ne C (tgt := 228) dX5_best_212 (by decide) (by first | omega | (refine ⟨?_, ?_⟩ <;> omega) | exact hw _ _ | exact nrm_R _) (fun c_212 => ?_) (fun c_212 => ?_)
          · refine j_iload C dX5_best_228 rfl ?_
            refine j_iload_n C dX5_best_230 rfl ?_
            refine j_icmp_gt C (tgt := 244) dX5_best_231 (by decide) (by first | omega | (refine ⟨?_, ?_⟩ <;> omega) | exact hw _ _ | exact nrm_R _) (by first | omega | (refine ⟨?_, ?_⟩ <;> omega) | exact hw _ _ | exact nrm_R _) (fun c_231 => ?_) (fun c_231 => ?_)
            · refine j_iconst C dX5_best_244 ?_
              refine j_istore C dX5_best_245 (Nat.le_of_ble_eq_true rfl) ?_
              dsimp only [List.set]
              refine j_goto C (tgt := 112) dX5_best_247 (by decide) ?_
              first
              | (exfalso; omega)
              | (have hng : ¬ gdc (dM g s) (bV (dM g s) ((g 21 0).toNat - 2 - i) (i + 1)) i sp L ah ow (c + 1) := fun z => by
                   obtain ⟨z1, z2⟩ := hgd.mp z
                   have z3 := hVF z1
                   first
                   | (have := hi_128.mpr z1; omega)
                   | omega
                 have hlt : c + 1 < cs := by
                   rcases (show c + 1 < cs ∨ c + 1 = cs by omega) with q | q
                   · exact q
                   · exact absurd (q ▸ hcs) hng
                 refine ih _ (by omega) (c + 1) cs _ _ rfl (by omega) hlt hcs (fun x hx => ?_)
                 by_cases e : x = c + 1
                 · subst e; exact hng
                 · exact hno x (by omega))
              | (have hok := hi_128.mp (by omega)
                 have z3 := hVF hok
                 have hg : gdc (dM g s) (bV (dM g s) ((g 21 0).toNat - 2 - i) (i + 1)) i sp L ah ow (c + 1) := hgd.mpr ⟨hok, by omega⟩
                 refine j_iload C dX5_best_112 rfl ?_
                 refine j_if_ne C (tgt := 250) dX5_best_114 (by decide) (by first | omega | (refine ⟨?_, ?_⟩ <;> omega) | exact hw _ _ | exact nrm_R _) (fun c_114 => ?_) (fun c_114 => ?_)
                 · exact kk (c + 1) _ ⟨hg, fun x hx => hno x (by omega)⟩
                 · exact absurd c_114 (by first | omega | (refine ⟨?_, ?_⟩ <;> omega) | exact hw _ _ | exact nrm_R _))
            · refine j_iload C dX5_best_234 rfl ?_
              refine j_iload_n C dX5_best_236 rfl ?_
              refine j_icmp_gt C (tgt := 244) dX5_best_237 (by decide) (by first | omega | (refine ⟨?_, ?_⟩ <;> omega) | exact hw _ _ | exact nrm_R _) (by first | omega | (refine ⟨?_, ?_⟩ <;> omega) | exact hw _ _ | exact nrm_R _) (fun c_237 => ?_) (fun c_237 => ?_)
              · refine j_iconst C dX5_best_244 ?_
                refine j_istore C dX5_best_245 (Nat.le_of_ble_eq_true rfl) ?_
                dsimp only [List.set]
                refine j_goto C (tgt := 112) dX5_best_247 (by decide) ?_
                first
                | (exfalso; omega)
                | (have hng : ¬ gdc (dM g s) (bV (dM g s) ((g 21 0).toNat - 2 - i) (i + 1)) i sp L ah ow (c + 1) := fun z => by
                     obtain ⟨z1, z2⟩ := hgd.mp z
                     have z3 := hVF z1
                     first
                     | (have := hi_128.mpr z1; omega)
                     | omega
                   have hlt : c + 1 < cs := by
                     rcases (show c + 1 < cs ∨ c + 1 = cs by omega) with q | q
                     · exact q
                     · exact absurd (q ▸ hcs) hng
                   refine ih _ (by omega) (c + 1) cs _ _ rfl (by omega) hlt hcs (fun x hx => ?_)
                   by_cases e : x = c + 1
                   · subst e; exact hng
                   · exact hno x (by omega))
                | (have hok := hi_128.mp (by omega)
                   have z3 := hVF hok
                   have hg : gdc (dM g s) (bV (dM g s) ((g 21 0).toNat - 2 - i) (i + 1)) i sp L ah ow (c + 1) := hgd.mpr ⟨hok, by omega⟩
                   refine j_iload C dX5_best_112 rfl ?_
                   refine j_if_ne C (tgt := 250) dX5_best_114 (by decide) (by first | omega | (refine ⟨?_, ?_⟩ <;> omega) | exact hw _ _ | exact nrm_R _) (fun c_114 => ?_) (fun c_114 => ?_)
                   · exact kk (c + 1) _ ⟨hg, fun x hx => hno x (by omega)⟩
                   · exact absurd c_114 (by first | omega | (refine ⟨?_, ?_⟩ <;> omega) | exact hw _ _ | exact nrm_R _))
              · refine j_iconst C dX5_best_240 ?_
                refine j_goto C (tgt := 245) dX5_best_241 (by decide) ?_
                refine j_istore C dX5_best_245 (Nat.le_of_ble_eq_true rfl) ?_
                dsimp only [List.set]
                refine j_goto C (tgt := 112) dX5_best_247 (by decide) ?_
                first
                | (exfalso; omega)
                | (have hng : ¬ gdc (dM g s) (bV (dM g s) ((g 21 0).toNat - 2 - i) (i + 1)) i sp L ah ow (c + 1) := fun z => by
                     obtain ⟨z1, z2⟩ := hgd.mp z
                     have z3 := hVF z1
                     first
                     | (have := hi_128.mpr z1; omega)
                     | omega
                   have hlt : c + 1 < cs := by
                     rcases (show c + 1 < cs ∨ c + 1 = cs by omega) with q | q
                     · exact q
                     · exact absurd (q ▸ hcs) hng
                   refine ih _ (by omega) (c + 1) cs _ _ rfl (by omega) hlt hcs (fun x hx => ?_)
                   by_cases e : x = c + 1
                   · subst e; exact hng
                   · exact hno x (by omega))
                | (have hok := hi_128.mp (by omega)
                   have z3 := hVF hok
                   have hg : gdc (dM g s) (bV (dM g s) ((g 21 0).toNat - 2 - i) (i + 1)) i sp L ah ow (c + 1) := hgd.mpr ⟨hok, by omega⟩
                   refine j_iload C dX5_best_112 rfl ?_
                   refine j_if_ne C (tgt := 250) dX5_best_114 (by decide) (by first | omega | (refine ⟨?_, ?_⟩ <;> omega) | exact hw _ _ | exact nrm_R _) (fun c_114 => ?_) (fun c_114 => ?_)
                   · exact kk (c + 1) _ ⟨hg, fun x hx => hno x (by omega)⟩
                   · exact absurd c_114 (by first | omega | (refine ⟨?_, ?_⟩ <;> omega) | exact hw _ _ | exact nrm_R _))
          · refine j_iload C dX5_best_215 rfl ?_
            refine j_iload C dX5_best_217 rfl ?_
            refine j_iadd C dX5_best_219 ?_
            refine j_iload C dX5_best_220 rfl ?_
            refine j_icmp_ne C (tgt := 244) dX5_best_222 (by decide) (by first | omega | (refine ⟨?_, ?_⟩ <;> omega) | exact hw _ _ | exact nrm_R _) (by first | omega | (refine ⟨?_, ?_⟩ <;> omega) | exact hw _ _ | exact nrm_R _) (fun c_222 => ?_) (fun c_222 => ?_)
            · refine j_iconst C dX5_best_244 ?_
              refine j_istore C dX5_best_245 (Nat.le_of_ble_eq_true rfl) ?_
              dsimp only [List.set]
              refine j_goto C (tgt := 112) dX5_best_247 (by decide) ?_
              first
              | (exfalso; omega)
              | (have hng : ¬ gdc (dM g s) (bV (dM g s) ((g 21 0).toNat - 2 - i) (i + 1)) i sp L ah ow (c + 1) := fun z => by
                   obtain ⟨z1, z2⟩ := hgd.mp z
                   have z3 := hVF z1
                   first
                   | (have := hi_128.mpr z1; omega)
                   | omega
                 have hlt : c + 1 < cs := by
                   rcases (show c + 1 < cs ∨ c + 1 = cs by omega) with q | q
                   · exact q
                   · exact absurd (q ▸ hcs) hng
                 refine ih _ (by omega) (c + 1) cs _ _ rfl (by omega) hlt hcs (fun x hx => ?_)
                 by_cases e : x = c + 1
                 · subst e; exact hng
                 · exact hno x (by omega))
              | (have hok := hi_128.mp (by omega)
                 have z3 := hVF hok
                 have hg : gdc (dM g s) (bV (dM g s) ((g 21 0).toNat - 2 - i) (i + 1)) i sp L ah ow (c + 1) := hgd.mpr ⟨hok, by omega⟩
                 refine j_iload C dX5_best_112 rfl ?_
                 refine j_if_ne C (tgt := 250) dX5_best_114 (by decide) (by first | omega | (refine ⟨?_, ?_⟩ <;> omega) | exact hw _ _ | exact nrm_R _) (fun c_114 => ?_) (fun c_114 => ?_)
                 · exact kk (c + 1) _ ⟨hg, fun x hx => hno x (by omega)⟩
                 · exact absurd c_114 (by first | omega | (refine ⟨?_, ?_⟩ <;> omega) | exact hw _ _ | exact nrm_R _))
            · refine j_goto C (tgt := 240) dX5_best_225 (by decide) ?_
              refine j_iconst C dX5_best_240 ?_
              refine j_goto C (tgt := 245) dX5_best_241 (by decide) ?_
              refine j_istore C dX5_best_245 (Nat.le_of_ble_eq_true rfl) ?_
              dsimp only [List.set]
              refine j_goto C (tgt := 112) dX5_best_247 (by decide) ?_
              first
              | (exfalso; omega)
              | (have hng : ¬ gdc (dM g s) (bV (dM g s) ((g 21 0).toNat - 2 - i) (i + 1)) i sp L ah ow (c + 1) := fun z => by
                   obtain ⟨z1, z2⟩ := hgd.mp z
                   have z3 := hVF z1
                   first
                   | (have := hi_128.mpr z1; omega)
                   | omega
                 have hlt : c + 1 < cs := by
                   rcases (show c + 1 < cs ∨ c + 1 = cs by omega) with q | q
                   · exact q
                   · exact absurd (q ▸ hcs) hng
                 refine ih _ (by omega) (c + 1) cs _ _ rfl (by omega) hlt hcs (fun x hx => ?_)
                 by_cases e : x = c + 1
                 · subst e; exact hng
                 · exact hno x (by omega))
              | (have hok := hi_128.mp (by omega)
                 have z3 := hVF hok
                 have hg : gdc (dM g s) (bV (dM g s) ((g 21 0).toNat - 2 - i) (i + 1)) i sp L ah ow (c + 1) := hgd.mpr ⟨hok, by omega⟩
                 refine j_iload C dX5_best_112 rfl ?_
                 refine j_if_ne C (tgt := 250) dX5_best_114 (by decide) (by first | omega | (refine ⟨?_, ?_⟩ <;> omega) | exact hw _ _ | exact nrm_R _) (fun c_114 => ?_) (fun c_114 => ?_)
                 · exact kk (c + 1) _ ⟨hg, fun x hx => hno x (by omega)⟩
                 · exact absurd c_114 (by first | omega | (refine ⟨?_, ?_⟩ <;> omega) | exact hw _ _ | exact nrm_R _))
