set_option maxHeartbeats 4000000 in
set_option maxRecDepth 100000 in
theorem ct_X5_read {t p v : Int} {g : AG} (h : aR t ∧ aR p ∧ aR v ∧ 2 ≤ g 21 0 ∧ g 21 0 ≤ 24 ∧ 0 ≤ g 21 1 ∧ g 21 1 ≤ 100) : MetI yX5_read wsX5_read rmX5_read ShW [.inr 21, .inl t, .inl p, .inl v] g (fun x g' => x = rRead (g 21 0) (g 21 1) t p v (fitP (g 26) (g 27) t.toNat (40 + p).toNat v) ∧ g' = (if x = 0 ∨ x = 1 then modA g t p v x else g)) := by
  refine metI_of (cc := cX5_read) (nL := 10) false (by decide +kernel) rfl (Nat.le_of_ble_eq_true rfl) (fun q J C => ?_)
  show J q ShW 0 0 0 [some (.inr 21), some (.inl t), some (.inl p), some (.inl v), none, none, none, none, none, none] [] g
  refine j_wf C (fun hw => ?_)
  obtain ⟨ht, hp, hv, h2, h3, h4, h5⟩ := h
  have tl : (0 ≤ p ∧ p ≤ g 21 0 - 1) → (0 ≤ t ∧ t ≤ 39 ∧ -1000 ≤ v ∧ v ≤ 1000) → g 21 1 < 100 → ∀ (x : Int) (l7 l8 l9 : Option AV), (x = 0 ∨ x = 1) → (x = 1 ↔ fitP (g 26) (g 27) t.toNat (40 + p).toNat v) → J q ShW 0 0 188 [some (.inr 21), some (.inl t), some (.inl p), some (.inl v), some (.inl t), some (.inl (40 + p)), some (.inl x), l7, l8, l9] [] (row (row g 26 (fitU (g 26) t.toNat (40 + p).toNat 64)) 27 (fitH (g 26) (g 27) t.toNat (40 + p).toNat v)) := by
    intro r1 r2 r3 x l7 l8 l9 hx1 hx2
    refine j_aload_n C dX5_read_188 rfl ?_
    refine j_getR C fX5_read_13 rfl rfl dX5_read_189 ?_
    refine j_aload_n C dX5_read_192 rfl ?_
    refine j_getI C fX5_read_79 rfl rfl dX5_read_193 ?_
    simp only [row_n _ _ (show (21 : Nat) ≠ 27 by decide), row_n _ _ (show (21 : Nat) ≠ 26 by decide), aset_kn _ _ _ (show (21 : Nat) ≠ 22 by decide), aset_kn _ _ _ (show (21 : Nat) ≠ 23 by decide), aset_kn _ _ _ (show (21 : Nat) ≠ 24 by decide), aset_kn _ _ _ (show (21 : Nat) ≠ 25 by decide)]
    refine j_iload_n C dX5_read_196 rfl ?_
    refine j_iastore C rfl (by decide) dX5_read_197 (by first | omega | (refine ⟨?_, ?_⟩ <;> omega) | exact hw _ _ | exact nrm_R _) (by first | omega | (refine ⟨?_, ?_⟩ <;> omega) | exact hw _ _ | exact nrm_R _) (by first | omega | (refine ⟨?_, ?_⟩ <;> omega) | exact hw _ _ | exact nrm_R _) ?_
    refine j_aload_n C dX5_read_198 rfl ?_
    refine j_getR C fX5_read_17 rfl rfl dX5_read_199 ?_
    refine j_aload_n C dX5_read_202 rfl ?_
    refine j_getI C fX5_read_79 rfl rfl dX5_read_203 ?_
    simp only [row_n _ _ (show (21 : Nat) ≠ 27 by decide), row_n _ _ (show (21 : Nat) ≠ 26 by decide), aset_kn _ _ _ (show (21 : Nat) ≠ 22 by decide), aset_kn _ _ _ (show (21 : Nat) ≠ 23 by decide), aset_kn _ _ _ (show (21 : Nat) ≠ 24 by decide), aset_kn _ _ _ (show (21 : Nat) ≠ 25 by decide)]
    refine j_iload_n C dX5_read_206 rfl ?_
    refine j_iastore C rfl (by decide) dX5_read_207 (by first | omega | (refine ⟨?_, ?_⟩ <;> omega) | exact hw _ _ | exact nrm_R _) (by first | omega | (refine ⟨?_, ?_⟩ <;> omega) | exact hw _ _ | exact nrm_R _) (by first | omega | (refine ⟨?_, ?_⟩ <;> omega) | exact hw _ _ | exact nrm_R _) ?_
    refine j_aload_n C dX5_read_208 rfl ?_
    refine j_getR C fX5_read_20 rfl rfl dX5_read_209 ?_
    refine j_aload_n C dX5_read_212 rfl ?_
    refine j_getI C fX5_read_79 rfl rfl dX5_read_213 ?_
    simp only [row_n _ _ (show (21 : Nat) ≠ 27 by decide), row_n _ _ (show (21 : Nat) ≠ 26 by decide), aset_kn _ _ _ (show (21 : Nat) ≠ 22 by decide), aset_kn _ _ _ (show (21 : Nat) ≠ 23 by decide), aset_kn _ _ _ (show (21 : Nat) ≠ 24 by decide), aset_kn _ _ _ (show (21 : Nat) ≠ 25 by decide)]
    refine j_iload_n C dX5_read_216 rfl ?_
    refine j_iastore C rfl (by decide) dX5_read_217 (by first | omega | (refine ⟨?_, ?_⟩ <;> omega) | exact hw _ _ | exact nrm_R _) (by first | omega | (refine ⟨?_, ?_⟩ <;> omega) | exact hw _ _ | exact nrm_R _) (by exact hv) ?_
    refine j_aload_n C dX5_read_218 rfl ?_
    refine j_getR C fX5_read_23 rfl rfl dX5_read_219 ?_
    refine j_aload_n C dX5_read_222 rfl ?_
    refine j_getI C fX5_read_79 rfl rfl dX5_read_223 ?_
    simp only [row_n _ _ (show (21 : Nat) ≠ 27 by decide), row_n _ _ (show (21 : Nat) ≠ 26 by decide), aset_kn _ _ _ (show (21 : Nat) ≠ 22 by decide), aset_kn _ _ _ (show (21 : Nat) ≠ 23 by decide), aset_kn _ _ _ (show (21 : Nat) ≠ 24 by decide), aset_kn _ _ _ (show (21 : Nat) ≠ 25 by decide)]
    refine j_iload C dX5_read_226 rfl ?_
    refine j_bastore C rfl (by decide) dX5_read_228 (by first | omega | (refine ⟨?_, ?_⟩ <;> omega) | exact hw _ _ | exact nrm_R _) (by first | omega | (refine ⟨?_, ?_⟩ <;> omega) | exact hw _ _ | exact nrm_R _) (by exact hx1) ?_
    refine j_aload_n C dX5_read_229 rfl ?_
    refine j_dup C dX5_read_230 ?_
    refine j_getI C fX5_read_79 rfl rfl dX5_read_231 ?_
    simp only [row_n _ _ (show (21 : Nat) ≠ 27 by decide), row_n _ _ (show (21 : Nat) ≠ 26 by decide), aset_kn _ _ _ (show (21 : Nat) ≠ 22 by decide), aset_kn _ _ _ (show (21 : Nat) ≠ 23 by decide), aset_kn _ _ _ (show (21 : Nat) ≠ 24 by decide), aset_kn _ _ _ (show (21 : Nat) ≠ 25 by decide)]
    refine j_iconst C dX5_read_234 ?_
    refine j_iadd C dX5_read_235 ?_
    refine j_putI C pX5_read_79 rfl rfl (by first | omega | (refine ⟨?_, ?_⟩ <;> omega) | exact hw _ _ | exact nrm_R _) (by intro h; cases h) dX5_read_236 ?_
    refine j_iload C dX5_read_239 rfl ?_
    refine j_if_eq C (tgt := 248) dX5_read_241 (by decide) (by first | omega | (refine ⟨?_, ?_⟩ <;> omega) | exact hw _ _ | exact nrm_R _) (fun c_241 => ?_) (fun c_241 => ?_)
    · refine j_iconst C dX5_read_248 ?_
      refine j_iretI C dX5_read_249 (by intro h; cases h) (fun hw9 => ?_)
      unfold rRead
      rw [if_neg (by omega), if_neg (by omega), if_neg (by omega)]
      first
      | (have e1 : x = 0 := by omega
         subst e1
         rw [cif_f (fun h => by have := hx2.mpr h; omega)]
         exact ⟨rfl, by rw [if_pos (by decide)]; rfl⟩)
      | (have e1 : x = 1 := by omega
         subst e1
         rw [cif_t (hx2.mp rfl)]
         exact ⟨rfl, by rw [if_pos (by decide)]; rfl⟩)
    · refine j_iconst C dX5_read_244 ?_
      refine j_goto C (tgt := 249) dX5_read_245 (by decide) ?_
      refine j_iretI C dX5_read_249 (by intro h; cases h) (fun hw9 => ?_)
      unfold rRead
      rw [if_neg (by omega), if_neg (by omega), if_neg (by omega)]
      first
      | (have e1 : x = 0 := by omega
         subst e1
         rw [cif_f (fun h => by have := hx2.mpr h; omega)]
         exact ⟨rfl, by rw [if_pos (by decide)]; rfl⟩)
      | (have e1 : x = 1 := by omega
         subst e1
         rw [cif_t (hx2.mp rfl)]
         exact ⟨rfl, by rw [if_pos (by decide)]; rfl⟩)
  have lp : (0 ≤ p ∧ p ≤ g 21 0 - 1) → (0 ≤ t ∧ t ≤ 39 ∧ -1000 ≤ v ∧ v ≤ 1000) → g 21 1 < 100 → g 26 t.toNat ≠ g 26 (40 + p).toNat → ∀ n : Nat, ∀ (i : Int), ((64 : Int) - i).toNat = n → 0 ≤ i → i ≤ 64 → J q ShW 0 0 137 [some (.inr 21), some (.inl t), some (.inl p), some (.inl v), some (.inl t), some (.inl (40 + p)), some (.inl 1), some (.inl (g 26 (40 + p).toNat)), some (.inl (g 27 t.toNat - v - g 27 (40 + p).toNat)), some (.inl i)] [] (row (row g 26 (fitU (g 26) t.toNat (40 + p).toNat i.toNat)) 27 (fitV (g 26) (g 27) t.toNat (40 + p).toNat v i.toNat)) := by
    intro r1 r2 r3 hne
    refine byN _ (fun n ih i hn h0 h9 => ?_)
    have hwg := hw
    refine j_wf C (fun hw => ?_)
    have ea : fitU (g 26) t.toNat (40 + p).toNat i.toNat t.toNat = g 26 t.toNat := by
      unfold fitU
      rw [if_neg (fun z => hne z.2)]
    refine j_iload C dX5_read_137 rfl ?_
    refine j_bipush C dX5_read_139 (by decide +kernel) ?_
    refine j_icmp_ge C (tgt := 188) dX5_read_141 (by decide) (by first | omega | (refine ⟨?_, ?_⟩ <;> omega) | exact hw _ _ | exact hwg _ _ | exact nrm_R _) (by first | omega | (refine ⟨?_, ?_⟩ <;> omega) | exact hw _ _ | exact hwg _ _ | exact nrm_R _) (fun c_141 => ?_) (fun c_141 => ?_)
    · rw [show i.toNat = 64 by omega]
      refine j_cast (tl r1 r2 r3 1 _ _ _ (Or.inr rfl) ⟨fun _ z => absurd z hne, fun _ => rfl⟩) rfl rfl ?_
      unfold fitH
      rw [if_neg hne]
    · refine j_aload_n C dX5_read_144 rfl ?_
      refine j_getR C fX5_read_27 rfl rfl dX5_read_145 ?_
      refine j_iload C dX5_read_148 rfl ?_
      refine j_iaload C rfl (by decide) dX5_read_150 (by first | omega | (refine ⟨?_, ?_⟩ <;> omega) | exact hw _ _ | exact hwg _ _ | exact nrm_R _) (by first | omega | (refine ⟨?_, ?_⟩ <;> omega) | exact hw _ _ | exact hwg _ _ | exact nrm_R _) ?_
      refine j_iload C dX5_read_151 rfl ?_
      refine j_icmp_ne C (tgt := 182) dX5_read_153 (by decide) (by first | omega | (refine ⟨?_, ?_⟩ <;> omega) | exact hw _ _ | exact hwg _ _ | exact nrm_R _) (by first | omega | (refine ⟨?_, ?_⟩ <;> omega) | exact hw _ _ | exact hwg _ _ | exact nrm_R _) (fun c_153 => ?_) (fun c_153 => ?_)
      · refine j_iinc C dX5_read_182 rfl ?_
        dsimp only [List.set]
        refine j_goto C (tgt := 137) dX5_read_185 (by decide) ?_
        have e1 : (row (row g 26 (fitU (g 26) t.toNat (40 + p).toNat i.toNat)) 27 (fitV (g 26) (g 27) t.toNat (40 + p).toNat v i.toNat)) 26 i.toNat = _ := congrFun (row_n _ _ (by decide)) _
        rw [e1, row_s, fitU_at] at c_153
        refine j_cast (ih _ (by omega) (i + 1) rfl (by omega) (by omega)) rfl rfl ?_
        rw [show (i + 1).toNat = i.toNat + 1 by omega]
        first
        | (rw [fitU_n c_153, fitV_n c_153]; done)
        | (rw [fitU_y c_153, fitV_y c_153]
           funext k' j
           by_cases a7 : k' = 27
           · subst a7
             simp [row, aset, fitV_at]
           · by_cases a6 : k' = 26
             · subst a6
               simp [row, aset, ea]
             · simp [row, aset, a7, a6])
      · refine j_aload_n C dX5_read_156 rfl ?_
        refine j_getR C fX5_read_27 rfl rfl dX5_read_157 ?_
        refine j_iload C dX5_read_160 rfl ?_
        refine j_aload_n C dX5_read_162 rfl ?_
        refine j_getR C fX5_read_27 rfl rfl dX5_read_163 ?_
        refine j_iload C dX5_read_166 rfl ?_
        refine j_iaload C rfl (by decide) dX5_read_168 (by first | omega | (refine ⟨?_, ?_⟩ <;> omega) | exact hw _ _ | exact hwg _ _ | exact nrm_R _) (by first | omega | (refine ⟨?_, ?_⟩ <;> omega) | exact hw _ _ | exact hwg _ _ | exact nrm_R _) ?_
        refine j_iastore C rfl (by decide) dX5_read_169 (by first | omega | (refine ⟨?_, ?_⟩ <;> omega) | exact hw _ _ | exact hwg _ _ | exact nrm_R _) (by first | omega | (refine ⟨?_, ?_⟩ <;> omega) | exact hw _ _ | exact hwg _ _ | exact nrm_R _) (by first | omega | (refine ⟨?_, ?_⟩ <;> omega) | exact hw _ _ | exact hwg _ _ | exact nrm_R _) ?_
        refine j_aload_n C dX5_read_170 rfl ?_
        refine j_getR C fX5_read_30 rfl rfl dX5_read_171 ?_
        refine j_iload C dX5_read_174 rfl ?_
        refine j_dup2 C dX5_read_176 ?_
        refine j_iaload C rfl (by decide) dX5_read_177 (by first | omega | (refine ⟨?_, ?_⟩ <;> omega) | exact hw _ _ | exact hwg _ _ | exact nrm_R _) (by first | omega | (refine ⟨?_, ?_⟩ <;> omega) | exact hw _ _ | exact hwg _ _ | exact nrm_R _) ?_
        refine j_iload C dX5_read_178 rfl ?_
        refine j_iadd C dX5_read_180 ?_
        refine j_nrm C ?_
        refine j_iastore C rfl (by decide) dX5_read_181 (by first | omega | (refine ⟨?_, ?_⟩ <;> omega) | exact hw _ _ | exact hwg _ _ | exact nrm_R _) (by first | omega | (refine ⟨?_, ?_⟩ <;> omega) | exact hw _ _ | exact hwg _ _ | exact nrm_R _) (by first | omega | (refine ⟨?_, ?_⟩ <;> omega) | exact hw _ _ | exact hwg _ _ | exact nrm_R _) ?_
        refine j_iinc C dX5_read_182 rfl ?_
        dsimp only [List.set]
        refine j_goto C (tgt := 137) dX5_read_185 (by decide) ?_
        have e1 : (row (row g 26 (fitU (g 26) t.toNat (40 + p).toNat i.toNat)) 27 (fitV (g 26) (g 27) t.toNat (40 + p).toNat v i.toNat)) 26 i.toNat = _ := congrFun (row_n _ _ (by decide)) _
        rw [e1, row_s, fitU_at] at c_153
        refine j_cast (ih _ (by omega) (i + 1) rfl (by omega) (by omega)) rfl rfl ?_
        rw [show (i + 1).toNat = i.toNat + 1 by omega]
        first
        | (rw [fitU_n c_153, fitV_n c_153]; done)
        | (rw [fitU_y c_153, fitV_y c_153]
           funext k' j
           by_cases a7 : k' = 27
           · subst a7
             simp [row, aset, fitV_at]
           · by_cases a6 : k' = 26
             · subst a6
               simp [row, aset, ea]
             · simp [row, aset, a7, a6])
  refine j_aload_n C dX5_read_0 rfl ?_
  refine j_iload_n C dX5_read_1 rfl ?_
  refine j_callVi1 C vX5_read_85 rfl rfl (Nat.le_of_ble_eq_true rfl) ⟨Nat.zero_le _, Nat.zero_le _⟩ dX5_read_2 (ct_X5_isPlace ⟨hp, by omega, by omega⟩) (fun x_2 g_2 hk_2 => ?_)
  obtain ⟨e_2, hb_2, hi_2⟩ := hk_2
  have e_2 := e_2.symm
  subst e_2
  refine j_if_ne C (tgt := 10) dX5_read_5 (by decide) (by first | omega | (refine ⟨?_, ?_⟩ <;> omega) | exact hw _ _ | exact nrm_R _) (fun c_5 => ?_) (fun c_5 => ?_)
  · refine j_iload_n C dX5_read_10 rfl ?_
    refine j_iconst C dX5_read_11 ?_
    refine j_bipush C dX5_read_12 (by decide +kernel) ?_
    refine j_callSi3 C vX5_read_75 rfl (Nat.le_of_ble_eq_true rfl) ⟨Nat.zero_le _, Nat.zero_le _⟩ dX5_read_14 (ct_X5_in ⟨ht, ⟨by omega, by omega⟩, ⟨by omega, by omega⟩⟩) (fun x_14 g_14 hk_14 => ?_)
    obtain ⟨e_14, hb_14, hi_14⟩ := hk_14
    have e_14 := e_14.symm
    subst e_14
    refine j_if_eq C (tgt := 33) dX5_read_17 (by decide) (by first | omega | (refine ⟨?_, ?_⟩ <;> omega) | exact hw _ _ | exact nrm_R _) (fun c_17 => ?_) (fun c_17 => ?_)
    · refine j_bipush C dX5_read_33 (by decide +kernel) ?_
      refine j_iretI C dX5_read_35 (by intro h; cases h) (fun hw9 => ?_)
      unfold rRead
      rw [if_neg (by omega), if_pos (by omega)]
      exact ⟨rfl, by rw [if_neg (by omega)]⟩
    · refine j_iload_n C dX5_read_20 rfl ?_
      refine j_sipush C dX5_read_21 (by decide +kernel) ?_
      refine j_sipush C dX5_read_24 (by decide +kernel) ?_
      refine j_callSi3 C vX5_read_75 rfl (Nat.le_of_ble_eq_true rfl) ⟨Nat.zero_le _, Nat.zero_le _⟩ dX5_read_27 (ct_X5_in ⟨hv, ⟨by omega, by omega⟩, ⟨by omega, by omega⟩⟩) (fun x_27 g_27 hk_27 => ?_)
      obtain ⟨e_27, hb_27, hi_27⟩ := hk_27
      have e_27 := e_27.symm
      subst e_27
      refine j_if_ne C (tgt := 36) dX5_read_30 (by decide) (by first | omega | (refine ⟨?_, ?_⟩ <;> omega) | exact hw _ _ | exact nrm_R _) (fun c_30 => ?_) (fun c_30 => ?_)
      · refine j_aload_n C dX5_read_36 rfl ?_
        refine j_getI C fX5_read_79 rfl rfl dX5_read_37 ?_
        refine j_bipush C dX5_read_40 (by decide +kernel) ?_
        refine j_icmp_ne C (tgt := 48) dX5_read_42 (by decide) (by refine ⟨?_, ?_⟩ <;> omega) (by refine ⟨?_, ?_⟩ <;> omega) (fun c_42 => ?_) (fun c_42 => ?_)
        · refine j_iload_n C dX5_read_48 rfl ?_
          refine j_istore C dX5_read_49 (Nat.le_of_ble_eq_true rfl) ?_
          dsimp only [List.set]
          refine j_bipush C dX5_read_51 (by decide +kernel) ?_
          refine j_iload_n C dX5_read_53 rfl ?_
          refine j_iadd C dX5_read_54 ?_
          refine j_istore C dX5_read_55 (Nat.le_of_ble_eq_true rfl) ?_
          dsimp only [List.set]
          refine j_iconst C dX5_read_57 ?_
          refine j_istore C dX5_read_58 (Nat.le_of_ble_eq_true rfl) ?_
          dsimp only [List.set]
          refine j_aload_n C dX5_read_60 rfl ?_
          refine j_getR C fX5_read_27 rfl rfl dX5_read_61 ?_
          refine j_iload C dX5_read_64 rfl ?_
          refine j_iaload C rfl (by decide) dX5_read_66 (by first | omega | (refine ⟨?_, ?_⟩ <;> omega) | exact hw _ _ | exact nrm_R _) (by first | omega | (refine ⟨?_, ?_⟩ <;> omega) | exact hw _ _ | exact nrm_R _) ?_
          refine j_aload_n C dX5_read_67 rfl ?_
          refine j_getR C fX5_read_27 rfl rfl dX5_read_68 ?_
          refine j_iload C dX5_read_71 rfl ?_
          refine j_iaload C rfl (by decide) dX5_read_73 (by first | omega | (refine ⟨?_, ?_⟩ <;> omega) | exact hw _ _ | exact nrm_R _) (by first | omega | (refine ⟨?_, ?_⟩ <;> omega) | exact hw _ _ | exact nrm_R _) ?_
          refine j_icmp_ne C (tgt := 106) dX5_read_74 (by decide) (by first | omega | (refine ⟨?_, ?_⟩ <;> omega) | exact hw _ _ | exact nrm_R _) (by first | omega | (refine ⟨?_, ?_⟩ <;> omega) | exact hw _ _ | exact nrm_R _) (fun c_74 => ?_) (fun c_74 => ?_)
          · refine j_aload_n C dX5_read_106 rfl ?_
            refine j_getR C fX5_read_27 rfl rfl dX5_read_107 ?_
            refine j_iload C dX5_read_110 rfl ?_
            refine j_iaload C rfl (by decide) dX5_read_112 (by first | omega | (refine ⟨?_, ?_⟩ <;> omega) | exact hw _ _ | exact nrm_R _) (by first | omega | (refine ⟨?_, ?_⟩ <;> omega) | exact hw _ _ | exact nrm_R _) ?_
            refine j_istore C dX5_read_113 (Nat.le_of_ble_eq_true rfl) ?_
            dsimp only [List.set]
            refine j_aload_n C dX5_read_115 rfl ?_
            refine j_getR C fX5_read_30 rfl rfl dX5_read_116 ?_
            refine j_iload C dX5_read_119 rfl ?_
            refine j_iaload C rfl (by decide) dX5_read_121 (by first | omega | (refine ⟨?_, ?_⟩ <;> omega) | exact hw _ _ | exact nrm_R _) (by first | omega | (refine ⟨?_, ?_⟩ <;> omega) | exact hw _ _ | exact nrm_R _) ?_
            refine j_iload_n C dX5_read_122 rfl ?_
            refine j_isub C dX5_read_123 ?_
            refine j_aload_n C dX5_read_124 rfl ?_
            refine j_getR C fX5_read_30 rfl rfl dX5_read_125 ?_
            refine j_iload C dX5_read_128 rfl ?_
            refine j_iaload C rfl (by decide) dX5_read_130 (by first | omega | (refine ⟨?_, ?_⟩ <;> omega) | exact hw _ _ | exact nrm_R _) (by first | omega | (refine ⟨?_, ?_⟩ <;> omega) | exact hw _ _ | exact nrm_R _) ?_
            refine j_isub C dX5_read_131 ?_
            refine j_istore C dX5_read_132 (Nat.le_of_ble_eq_true rfl) ?_
            dsimp only [List.set]
            refine j_iconst C dX5_read_134 ?_
            refine j_istore C dX5_read_135 (Nat.le_of_ble_eq_true rfl) ?_
            dsimp only [List.set]
            refine j_cast (lp (by omega) (by omega) (by omega) c_74 _ 0 rfl (by omega) (by omega)) rfl rfl ?_
            rw [show (0 : Int).toNat = 0 from rfl, fitU_0, fitV_0, row_id, row_id]
          · refine j_aload_n C dX5_read_77 rfl ?_
            refine j_getR C fX5_read_30 rfl rfl dX5_read_78 ?_
            refine j_iload C dX5_read_81 rfl ?_
            refine j_iaload C rfl (by decide) dX5_read_83 (by first | omega | (refine ⟨?_, ?_⟩ <;> omega) | exact hw _ _ | exact nrm_R _) (by first | omega | (refine ⟨?_, ?_⟩ <;> omega) | exact hw _ _ | exact nrm_R _) ?_
            refine j_aload_n C dX5_read_84 rfl ?_
            refine j_getR C fX5_read_30 rfl rfl dX5_read_85 ?_
            refine j_iload C dX5_read_88 rfl ?_
            refine j_iaload C rfl (by decide) dX5_read_90 (by first | omega | (refine ⟨?_, ?_⟩ <;> omega) | exact hw _ _ | exact nrm_R _) (by first | omega | (refine ⟨?_, ?_⟩ <;> omega) | exact hw _ _ | exact nrm_R _) ?_
            refine j_isub C dX5_read_91 ?_
            refine j_nrm C ?_
            refine j_iload_n C dX5_read_92 rfl ?_
            refine j_icmp_ne C (tgt := 100) dX5_read_93 (by decide) (by first | omega | (refine ⟨?_, ?_⟩ <;> omega) | exact hw _ _ | exact nrm_R _) (by first | omega | (refine ⟨?_, ?_⟩ <;> omega) | exact hw _ _ | exact nrm_R _) (fun c_93 => ?_) (fun c_93 => ?_)
            · refine j_iconst C dX5_read_100 ?_
              refine j_istore C dX5_read_101 (Nat.le_of_ble_eq_true rfl) ?_
              dsimp only [List.set]
              refine j_goto C (tgt := 188) dX5_read_103 (by decide) ?_
              refine j_cast (tl (by omega) (by omega) (by omega) _ none none none (by omega) ?_) rfl rfl ?_
              · first | exact ⟨fun _ _ => c_93, fun _ => rfl⟩ | exact ⟨fun h => absurd h (by decide), fun h => absurd (h c_74) c_93⟩
              · unfold fitH
                rw [if_pos c_74, fitU_same c_74, row_id, row_id]
            · refine j_iconst C dX5_read_96 ?_
              refine j_goto C (tgt := 101) dX5_read_97 (by decide) ?_
              refine j_istore C dX5_read_101 (Nat.le_of_ble_eq_true rfl) ?_
              dsimp only [List.set]
              refine j_goto C (tgt := 188) dX5_read_103 (by decide) ?_
              refine j_cast (tl (by omega) (by omega) (by omega) _ none none none (by omega) ?_) rfl rfl ?_
              · first | exact ⟨fun _ _ => c_93, fun _ => rfl⟩ | exact ⟨fun h => absurd h (by decide), fun h => absurd (h c_74) c_93⟩
              · unfold fitH
                rw [if_pos c_74, fitU_same c_74, row_id, row_id]
        · refine j_bipush C dX5_read_45 (by decide +kernel) ?_
          refine j_iretI C dX5_read_47 (by intro h; cases h) (fun hw9 => ?_)
          unfold rRead
          rw [if_neg (by omega), if_neg (by omega), if_pos (by omega)]
          exact ⟨rfl, by rw [if_neg (by omega)]⟩
      · refine j_bipush C dX5_read_33 (by decide +kernel) ?_
        refine j_iretI C dX5_read_35 (by intro h; cases h) (fun hw9 => ?_)
        unfold rRead
        rw [if_neg (by omega), if_pos (by omega)]
        exact ⟨rfl, by rw [if_neg (by omega)]⟩
  · refine j_iconst C dX5_read_8 ?_
    refine j_iretI C dX5_read_9 (by intro h; cases h) (fun hw9 => ?_)
    unfold rRead
    rw [if_pos (by omega)]
    exact ⟨rfl, by rw [if_neg (by omega)]⟩
set_option maxHeartbeats 4000000 in
set_option maxRecDepth 100000 in
theorem ct_X5_reading {i w : Int} {g : AG} (h : aR i ∧ aR w ∧ 0 ≤ g 21 1 ∧ g 21 1 ≤ 100 ∧ ∀ j, g 25 j = 0 ∨ g 25 j = 1) : MetI yX5_reading wsX5_reading rmX5_reading ShW [.inr 21, .inl i, .inl w] g (fun x g' => g' = g ∧ x = rReading (g 21 1) i w (g 22) (g 23) (g 24) (g 25)) := by
  refine metI_of (cc := cX5_reading) (nL := 3) false (by decide +kernel) rfl (Nat.le_of_ble_eq_true rfl) (fun q J C => ?_)
  show J q ShW 0 0 0 [some (.inr 21), some (.inl i), some (.inl w)] [] g
  refine j_wf C (fun hw => ?_)
  obtain ⟨hi, hx, h2, h3, h4⟩ := h
  have h5 := h4 i.toNat
  refine j_iload_n C dX5_reading_0 rfl ?_
  refine j_iconst C dX5_reading_1 ?_
  refine j_aload_n C dX5_reading_2 rfl ?_
  refine j_getI C fX5_reading_79 rfl rfl dX5_reading_3 ?_
  refine j_iconst C dX5_reading_6 ?_
  refine j_isub C dX5_reading_7 ?_
  refine j_callSi3 C vX5_reading_75 rfl (Nat.le_of_ble_eq_true rfl) ⟨Nat.zero_le _, Nat.zero_le _⟩ dX5_reading_8 (ct_X5_in ⟨hi, ⟨by omega, by omega⟩, ⟨by omega, by omega⟩⟩) (fun x_8 g_8 hk_8 => ?_)
  obtain ⟨e_8, hb_8, hi_8⟩ := hk_8
  have e_8 := e_8.symm
  subst e_8
  refine j_if_ne C (tgt := 17) dX5_reading_11 (by decide) (by first | omega | (refine ⟨?_, ?_⟩ <;> omega) | exact hw _ _ | exact nrm_R _) (fun c_11 => ?_) (fun c_11 => ?_)
  · refine j_iload_n C dX5_reading_17 rfl ?_
    refine j_tsw4 C (td := 84) (t0 := 48) (t1 := 55) (t2 := 62) (t3 := 69) dX5_reading_18 (by decide) ⟨by decide, by decide, by decide, by decide⟩ (by exact hx) (fun c_18 => ?_) (fun c_18 => ?_) (fun c_18 => ?_) (fun c_18 => ?_) (fun c_18 => ?_)
    · refine j_aload_n C dX5_reading_48 rfl ?_
      refine j_getR C fX5_reading_13 rfl rfl dX5_reading_49 ?_
      refine j_iload_n C dX5_reading_52 rfl ?_
      refine j_iaload C rfl (by decide) dX5_reading_53 (by first | omega | (refine ⟨?_, ?_⟩ <;> omega) | exact hw _ _ | exact nrm_R _) (by first | omega | (refine ⟨?_, ?_⟩ <;> omega) | exact hw _ _ | exact nrm_R _) ?_
      refine j_iretI C dX5_reading_54 (by intro h; cases h) (fun hw9 => ?_)
      refine ⟨rfl, ?_⟩
      unfold rReading
      rw [if_neg (by omega)]
      simp only [c_18]
      all_goals first | rfl | omega | (simp; omega)
    · refine j_aload_n C dX5_reading_55 rfl ?_
      refine j_getR C fX5_reading_17 rfl rfl dX5_reading_56 ?_
      refine j_iload_n C dX5_reading_59 rfl ?_
      refine j_iaload C rfl (by decide) dX5_reading_60 (by first | omega | (refine ⟨?_, ?_⟩ <;> omega) | exact hw _ _ | exact nrm_R _) (by first | omega | (refine ⟨?_, ?_⟩ <;> omega) | exact hw _ _ | exact nrm_R _) ?_
      refine j_iretI C dX5_reading_61 (by intro h; cases h) (fun hw9 => ?_)
      refine ⟨rfl, ?_⟩
      unfold rReading
      rw [if_neg (by omega)]
      simp only [c_18]
      all_goals first | rfl | omega | (simp; omega)
    · refine j_aload_n C dX5_reading_62 rfl ?_
      refine j_getR C fX5_reading_20 rfl rfl dX5_reading_63 ?_
      refine j_iload_n C dX5_reading_66 rfl ?_
      refine j_iaload C rfl (by decide) dX5_reading_67 (by first | omega | (refine ⟨?_, ?_⟩ <;> omega) | exact hw _ _ | exact nrm_R _) (by first | omega | (refine ⟨?_, ?_⟩ <;> omega) | exact hw _ _ | exact nrm_R _) ?_
      refine j_iretI C dX5_reading_68 (by intro h; cases h) (fun hw9 => ?_)
      refine ⟨rfl, ?_⟩
      unfold rReading
      rw [if_neg (by omega)]
      simp only [c_18]
      all_goals first | rfl | omega | (simp; omega)
    · refine j_aload_n C dX5_reading_69 rfl ?_
      refine j_getR C fX5_reading_23 rfl rfl dX5_reading_70 ?_
      refine j_iload_n C dX5_reading_73 rfl ?_
      refine j_baload C rfl (by decide) dX5_reading_74 (by first | omega | (refine ⟨?_, ?_⟩ <;> omega) | exact hw _ _ | exact nrm_R _) (by first | omega | (refine ⟨?_, ?_⟩ <;> omega) | exact hw _ _ | exact nrm_R _) ?_
      refine j_if_eq C (tgt := 82) dX5_reading_75 (by decide) (by first | omega | (refine ⟨?_, ?_⟩ <;> omega) | exact hw _ _ | exact nrm_R _) (fun c_75 => ?_) (fun c_75 => ?_)
      · refine j_iconst C dX5_reading_82 ?_
        refine j_iretI C dX5_reading_83 (by intro h; cases h) (fun hw9 => ?_)
        refine ⟨rfl, ?_⟩
        unfold rReading
        rw [if_neg (by omega)]
        simp only [c_18]
        all_goals first | rfl | omega | (simp; omega)
      · refine j_iconst C dX5_reading_78 ?_
        refine j_goto C (tgt := 83) dX5_reading_79 (by decide) ?_
        refine j_iretI C dX5_reading_83 (by intro h; cases h) (fun hw9 => ?_)
        refine ⟨rfl, ?_⟩
        unfold rReading
        rw [if_neg (by omega)]
        simp only [c_18]
        all_goals first | rfl | omega | (simp; omega)
    · refine j_ldc C (-1000002) dX5_reading_84 kX5_reading_90 ?_
      refine j_iretI C dX5_reading_86 (by intro h; cases h) (fun hw9 => ?_)
      refine ⟨rfl, ?_⟩
      unfold rReading
      rw [if_neg (by omega), if_neg (by omega), if_neg (by omega), if_neg (by omega), if_neg (by omega)]
  · refine j_ldc C (-1000001) dX5_reading_14 kX5_reading_89 ?_
    refine j_iretI C dX5_reading_16 (by intro h; cases h) (fun hw9 => ?_)
    exact ⟨rfl, by unfold rReading; rw [if_pos (by omega)]⟩
/-- the model's sheet anew -/
def modS (g : AG) (n : Int) : AG := modF (row (row (aset (aset g 21 0 n) 21 14 0) 28 (fillU (g 28) 24 (fun _ => 0))) 29 (fillU (g 29) 24 (fun _ => 0)))
set_option maxHeartbeats 4000000 in
set_option maxRecDepth 100000 in
theorem ct_X5_sheet {a : Int} {g : AG} (h : aR a) : MetI yX5_sheet wsX5_sheet rmX5_sheet ShW [.inr 21, .inl a] g (fun x g' => x = rSheet (g 21 0) a ∧ g' = (if 2 ≤ a ∧ a ≤ 24 then modS g a else g)) := by
  refine metI_of (cc := cX5_sheet) (nL := 4) false (by decide +kernel) rfl (Nat.le_of_ble_eq_true rfl) (fun q J C => ?_)
  show J q ShW 0 0 0 [some (.inr 21), some (.inl a), none, none] [] g
  refine j_wf C (fun hw => ?_)
  have lp : 2 ≤ a ∧ a ≤ 24 → ∀ n : Nat, ∀ (i : Int), ((24 : Int) - i).toNat = n → 0 ≤ i → i ≤ 24 → J q ShW 0 0 30 [some (.inr 21), some (.inl a), some (.inl (g 21 0)), some (.inl i)] [] (row (row (aset (aset g 21 0 a) 21 14 0) 28 (fillU (g 28) i.toNat (fun _ => 0))) 29 (fillU (g 29) i.toNat (fun _ => 0))) := by
    intro ha
    refine byN _ (fun n ih i hn h0 h1 => ?_)
    refine j_wf C (fun hw => ?_)
    refine j_iload_n C dX5_sheet_30 rfl ?_
    refine j_bipush C dX5_sheet_31 (by decide +kernel) ?_
    refine j_icmp_ge C (tgt := 56) dX5_sheet_33 (by decide) (by first | omega | (refine ⟨?_, ?_⟩ <;> omega) | exact hw _ _ | exact nrm_R _) (by first | omega | (refine ⟨?_, ?_⟩ <;> omega) | exact hw _ _ | exact nrm_R _) (fun c_33 => ?_) (fun c_33 => ?_)
    · refine j_aload_n C dX5_sheet_56 rfl ?_
      refine j_callVv0 C vX5_sheet_72 rfl rfl (Nat.le_of_ble_eq_true rfl) ⟨Nat.zero_le _, Nat.zero_le _⟩ dX5_sheet_57 (ct_X5_begin ) (fun g_57 hk_57 => ?_)
      subst hk_57
      refine j_iload_n C dX5_sheet_60 rfl ?_
      refine j_iretI C dX5_sheet_61 (by intro h; cases h) (fun hw9 => ?_)
      unfold rSheet
      rw [if_pos ha]
      refine ⟨rfl, ?_⟩
      rw [if_pos ha, show i.toNat = 24 by omega]
      rfl
    · refine j_aload_n C dX5_sheet_36 rfl ?_
      refine j_getR C fX5_sheet_33 rfl rfl dX5_sheet_37 ?_
      refine j_iload_n C dX5_sheet_40 rfl ?_
      refine j_iconst C dX5_sheet_41 ?_
      refine j_iastore C rfl (by decide) dX5_sheet_42 (by first | omega | (refine ⟨?_, ?_⟩ <;> omega) | exact hw _ _ | exact nrm_R _) (by first | omega | (refine ⟨?_, ?_⟩ <;> omega) | exact hw _ _ | exact nrm_R _) (by first | omega | (refine ⟨?_, ?_⟩ <;> omega) | exact hw _ _ | exact nrm_R _) ?_
      refine j_aload_n C dX5_sheet_43 rfl ?_
      refine j_getR C fX5_sheet_36 rfl rfl dX5_sheet_44 ?_
      refine j_iload_n C dX5_sheet_47 rfl ?_
      refine j_iconst C dX5_sheet_48 ?_
      refine j_iastore C rfl (by decide) dX5_sheet_49 (by first | omega | (refine ⟨?_, ?_⟩ <;> omega) | exact hw _ _ | exact nrm_R _) (by first | omega | (refine ⟨?_, ?_⟩ <;> omega) | exact hw _ _ | exact nrm_R _) (by first | omega | (refine ⟨?_, ?_⟩ <;> omega) | exact hw _ _ | exact nrm_R _) ?_
      refine j_iinc C dX5_sheet_50 rfl ?_
      dsimp only [List.set]
      refine j_goto C (tgt := 30) dX5_sheet_53 (by decide) ?_
      refine j_cast (ih _ (by omega) (i + 1) rfl (by omega) (by omega)) rfl rfl ?_
      rw [show (i + 1).toNat = i.toNat + 1 by omega, fillU_s, fillU_s]
      funext k' j
      by_cases a6 : k' = 29
      · subst a6
        simp [row, aset]
      · by_cases a5 : k' = 28
        · subst a5
          simp [row, aset]
        · simp [row, aset, a6, a5]
  refine j_iload_n C dX5_sheet_0 rfl ?_
  refine j_iconst C dX5_sheet_1 ?_
  refine j_bipush C dX5_sheet_2 (by decide +kernel) ?_
  refine j_callSi3 C vX5_sheet_75 rfl (Nat.le_of_ble_eq_true rfl) ⟨Nat.zero_le _, Nat.zero_le _⟩ dX5_sheet_4 (ct_X5_in ⟨h, ⟨by omega, by omega⟩, ⟨by omega, by omega⟩⟩) (fun x_4 g_4 hk_4 => ?_)
  obtain ⟨e_4, hb_4, hi_4⟩ := hk_4
  have e_4 := e_4.symm
  subst e_4
  refine j_if_ne C (tgt := 13) dX5_sheet_7 (by decide) (by first | omega | (refine ⟨?_, ?_⟩ <;> omega) | exact hw _ _ | exact nrm_R _) (fun c_7 => ?_) (fun c_7 => ?_)
  · refine j_aload_n C dX5_sheet_13 rfl ?_
    refine j_getI C fX5_sheet_7 rfl rfl dX5_sheet_14 ?_
    refine j_istore_n C dX5_sheet_17 (Nat.le_of_ble_eq_true rfl) ?_
    dsimp only [List.set]
    refine j_aload_n C dX5_sheet_18 rfl ?_
    refine j_iload_n C dX5_sheet_19 rfl ?_
    refine j_putI C pX5_sheet_7 rfl rfl (by first | omega | (refine ⟨?_, ?_⟩ <;> omega) | exact hw _ _ | exact nrm_R _) (by intro h; cases h) dX5_sheet_20 ?_
    refine j_aload_n C dX5_sheet_23 rfl ?_
    refine j_iconst C dX5_sheet_24 ?_
    refine j_putI C pX5_sheet_82 rfl rfl (by first | omega | (refine ⟨?_, ?_⟩ <;> omega) | exact hw _ _ | exact nrm_R _) (by intro h; cases h) dX5_sheet_25 ?_
    refine j_iconst C dX5_sheet_28 ?_
    refine j_istore_n C dX5_sheet_29 (Nat.le_of_ble_eq_true rfl) ?_
    dsimp only [List.set]
    refine j_cast (lp (by omega) _ 0 rfl (by omega) (by omega)) rfl rfl ?_
    rw [show (0 : Int).toNat = 0 from rfl, fillU_0, fillU_0]
    funext k' j
    by_cases a6 : k' = 29
    · subst a6
      simp [row, aset]
    · by_cases a5 : k' = 28
      · subst a5
        simp [row, aset]
      · simp [row, aset, a6, a5]
  · refine j_bipush C dX5_sheet_10 (by decide +kernel) ?_
    refine j_iretI C dX5_sheet_12 (by intro h; cases h) (fun hw9 => ?_)
    unfold rSheet
    rw [if_neg (by omega)]
    exact ⟨rfl, by rw [if_neg (by omega)]⟩
set_option maxHeartbeats 4000000 in
set_option maxRecDepth 100000 in
theorem ct_X5_areLawful {a b : Int} {g : AG} (h : LM g ∧ aR a ∧ aR b) : MetI yX5_areLawful wsX5_areLawful rmX5_areLawful ShW [.inr 21, .inl a, .inl b] g (fun x g' => g' = g ∧ (x = 0 ∨ x = 1) ∧ (x = 1 ↔ lawf (g 29) (g 21 0).toNat a b)) := by
  refine metI_of (cc := cX5_areLawful) (nL := 5) true (by decide +kernel) rfl (Nat.le_of_ble_eq_true rfl) (fun q J C => ?_)
  show J q ShW 0 0 0 [some (.inr 21), some (.inl a), some (.inl b), none, none] [] g
  refine j_wf C (fun hw => ?_)
  obtain ⟨hL, ha, hb⟩ := h
  have hn := hL.1
  have hS := hL.2.2.2.2.2.2
  have lp : ∀ k : Nat, ∀ (i f : Int), (g 21 0 - i).toNat = k → 0 ≤ i → i ≤ g 21 0 → (f = 0 ∨ f = 1) → (f = 1 ↔ lawf (g 29) i.toNat a b) → J q ShW 0 0 5 [some (.inr 21), some (.inl a), some (.inl b), some (.inl f), some (.inl i)] [] g := by
    refine byN _ (fun k ih i f hn2 h0 h1 hf1 hf2 => ?_)
    have s0 := hS i.toNat
    have s1 := hS (i - 1).toNat
    have s2 := hS (i - 2).toNat
    have e1 : i.toNat - 1 = (i - 1).toNat := by omega
    have e2 : i.toNat - 2 = (i - 2).toNat := by omega
    refine j_iload C dX5_areLawful_5 rfl ?_
    refine j_aload_n C dX5_areLawful_7 rfl ?_
    refine j_getI C fX5_areLawful_7 rfl rfl dX5_areLawful_8 ?_
    refine j_icmp_ge C (tgt := 111) dX5_areLawful_11 (by decide) (by first | omega | (refine ⟨?_, ?_⟩ <;> omega) | exact ha | exact hb | exact hw _ _) (by first | omega | (refine ⟨?_, ?_⟩ <;> omega) | exact ha | exact hb | exact hw _ _) (fun c_11 => ?_) (fun c_11 => ?_)
    · refine j_iload_n C dX5_areLawful_111 rfl ?_
      refine j_iretI C dX5_areLawful_112 (fun _ => by first | exact Or.inl rfl | exact Or.inr rfl | assumption | omega) (fun hw9 => ?_)
      refine ⟨rfl, hf1, ?_⟩
      rw [show (g 21 0).toNat = i.toNat by omega]
      exact hf2
    · refine j_iload_n C dX5_areLawful_14 rfl ?_
      refine j_if_eq C (tgt := 51) dX5_areLawful_15 (by decide) (by first | omega | (refine ⟨?_, ?_⟩ <;> omega) | exact ha | exact hb | exact hw _ _) (fun c_15 => ?_) (fun c_15 => ?_)
      · refine j_iconst C dX5_areLawful_51 ?_
        refine j_istore_n C dX5_areLawful_52 (Nat.le_of_ble_eq_true rfl) ?_
        dsimp only [List.set]
        refine j_iload_n C dX5_areLawful_53 rfl ?_
        refine j_if_eq C (tgt := 103) dX5_areLawful_54 (by decide) (by first | omega | (refine ⟨?_, ?_⟩ <;> omega) | exact ha | exact hb | exact hw _ _) (fun c_54 => ?_) (fun c_54 => ?_)
        · refine j_iconst C dX5_areLawful_103 ?_
          refine j_istore_n C dX5_areLawful_104 (Nat.le_of_ble_eq_true rfl) ?_
          dsimp only [List.set]
          refine j_iinc C dX5_areLawful_105 rfl ?_
          dsimp only [List.set]
          refine j_goto C (tgt := 5) dX5_areLawful_108 (by decide) ?_
          first
          | (exfalso; omega)
          | (refine ih _ (by omega) (i + 1) _ rfl (by omega) (by omega) (by omega) ?_
             rw [show (i + 1).toNat = i.toNat + 1 by omega, lawf_s, e1, e2]
             first
             | exact ⟨fun _ => ⟨hf2.mp (by omega), fun _ => by omega, fun _ => by omega⟩, fun _ => rfl⟩
             | exact ⟨fun h => absurd h (by decide), fun h => by have := hf2.mpr h.1; omega⟩
             | exact ⟨fun h => absurd h (by decide), fun h => by have := h.2.1 (by omega); omega⟩
             | exact ⟨fun h => absurd h (by decide), fun h => by have := h.2.2 (by omega); omega⟩)
        · refine j_iload C dX5_areLawful_57 rfl ?_
          refine j_iconst C dX5_areLawful_59 ?_
          refine j_icmp_lt C (tgt := 99) dX5_areLawful_60 (by decide) (by first | omega | (refine ⟨?_, ?_⟩ <;> omega) | exact ha | exact hb | exact hw _ _) (by first | omega | (refine ⟨?_, ?_⟩ <;> omega) | exact ha | exact hb | exact hw _ _) (fun c_60 => ?_) (fun c_60 => ?_)
          · refine j_iconst C dX5_areLawful_99 ?_
            refine j_goto C (tgt := 104) dX5_areLawful_100 (by decide) ?_
            refine j_istore_n C dX5_areLawful_104 (Nat.le_of_ble_eq_true rfl) ?_
            dsimp only [List.set]
            refine j_iinc C dX5_areLawful_105 rfl ?_
            dsimp only [List.set]
            refine j_goto C (tgt := 5) dX5_areLawful_108 (by decide) ?_
            first
            | (exfalso; omega)
            | (refine ih _ (by omega) (i + 1) _ rfl (by omega) (by omega) (by omega) ?_
               rw [show (i + 1).toNat = i.toNat + 1 by omega, lawf_s, e1, e2]
               first
               | exact ⟨fun _ => ⟨hf2.mp (by omega), fun _ => by omega, fun _ => by omega⟩, fun _ => rfl⟩
               | exact ⟨fun h => absurd h (by decide), fun h => by have := hf2.mpr h.1; omega⟩
               | exact ⟨fun h => absurd h (by decide), fun h => by have := h.2.1 (by omega); omega⟩
               | exact ⟨fun h => absurd h (by decide), fun h => by have := h.2.2 (by omega); omega⟩)
          · refine j_iconst C dX5_areLawful_63 ?_
            refine j_aload_n C dX5_areLawful_64 rfl ?_
            refine j_getR C fX5_areLawful_36 rfl rfl dX5_areLawful_65 ?_
            refine j_iload C dX5_areLawful_68 rfl ?_
            refine j_iconst C dX5_areLawful_70 ?_
            refine j_isub C dX5_areLawful_71 ?_
            refine j_iaload C rfl (by decide) dX5_areLawful_72 (by first | omega | (refine ⟨?_, ?_⟩ <;> omega) | exact ha | exact hb | exact hw _ _) (by first | omega | (refine ⟨?_, ?_⟩ <;> omega) | exact ha | exact hb | exact hw _ _) ?_
            refine j_imul C dX5_areLawful_73 ?_
            refine j_aload_n C dX5_areLawful_74 rfl ?_
            refine j_getR C fX5_areLawful_36 rfl rfl dX5_areLawful_75 ?_
            refine j_iload C dX5_areLawful_78 rfl ?_
            refine j_iaload C rfl (by decide) dX5_areLawful_80 (by first | omega | (refine ⟨?_, ?_⟩ <;> omega) | exact ha | exact hb | exact hw _ _) (by first | omega | (refine ⟨?_, ?_⟩ <;> omega) | exact ha | exact hb | exact hw _ _) ?_
            refine j_isub C dX5_areLawful_81 ?_
            refine j_aload_n C dX5_areLawful_82 rfl ?_
            refine j_getR C fX5_areLawful_36 rfl rfl dX5_areLawful_83 ?_
            refine j_iload C dX5_areLawful_86 rfl ?_
            refine j_iconst C dX5_areLawful_88 ?_
            refine j_isub C dX5_areLawful_89 ?_
            refine j_iaload C rfl (by decide) dX5_areLawful_90 (by first | omega | (refine ⟨?_, ?_⟩ <;> omega) | exact ha | exact hb | exact hw _ _) (by first | omega | (refine ⟨?_, ?_⟩ <;> omega) | exact ha | exact hb | exact hw _ _) ?_
            refine j_isub C dX5_areLawful_91 ?_
            refine j_callSi1 C vX5_areLawful_99 rfl (Nat.le_of_ble_eq_true rfl) ⟨Nat.zero_le _, Nat.zero_le _⟩ dX5_areLawful_92 (ct_X5_size ⟨by omega, by omega⟩) (fun x_92 g_92 hk_92 => ?_)
            obtain ⟨e_92, rfl⟩ := hk_92
            have e_92 := e_92.symm
            subst e_92
            refine j_iload_n C dX5_areLawful_95 rfl ?_
            refine j_icmp_gt C (tgt := 103) dX5_areLawful_96 (by decide) (by first | omega | (refine ⟨?_, ?_⟩ <;> omega) | exact ha | exact hb | exact hw _ _) (by first | omega | (refine ⟨?_, ?_⟩ <;> omega) | exact ha | exact hb | exact hw _ _) (fun c_96 => ?_) (fun c_96 => ?_)
            · refine j_iconst C dX5_areLawful_103 ?_
              refine j_istore_n C dX5_areLawful_104 (Nat.le_of_ble_eq_true rfl) ?_
              dsimp only [List.set]
              refine j_iinc C dX5_areLawful_105 rfl ?_
              dsimp only [List.set]
              refine j_goto C (tgt := 5) dX5_areLawful_108 (by decide) ?_
              first
              | (exfalso; omega)
              | (refine ih _ (by omega) (i + 1) _ rfl (by omega) (by omega) (by omega) ?_
                 rw [show (i + 1).toNat = i.toNat + 1 by omega, lawf_s, e1, e2]
                 first
                 | exact ⟨fun _ => ⟨hf2.mp (by omega), fun _ => by omega, fun _ => by omega⟩, fun _ => rfl⟩
                 | exact ⟨fun h => absurd h (by decide), fun h => by have := hf2.mpr h.1; omega⟩
                 | exact ⟨fun h => absurd h (by decide), fun h => by have := h.2.1 (by omega); omega⟩
                 | exact ⟨fun h => absurd h (by decide), fun h => by have := h.2.2 (by omega); omega⟩)
            · refine j_iconst C dX5_areLawful_99 ?_
              refine j_goto C (tgt := 104) dX5_areLawful_100 (by decide) ?_
              refine j_istore_n C dX5_areLawful_104 (Nat.le_of_ble_eq_true rfl) ?_
              dsimp only [List.set]
              refine j_iinc C dX5_areLawful_105 rfl ?_
              dsimp only [List.set]
              refine j_goto C (tgt := 5) dX5_areLawful_108 (by decide) ?_
              first
              | (exfalso; omega)
              | (refine ih _ (by omega) (i + 1) _ rfl (by omega) (by omega) (by omega) ?_
                 rw [show (i + 1).toNat = i.toNat + 1 by omega, lawf_s, e1, e2]
                 first
                 | exact ⟨fun _ => ⟨hf2.mp (by omega), fun _ => by omega, fun _ => by omega⟩, fun _ => rfl⟩
                 | exact ⟨fun h => absurd h (by decide), fun h => by have := hf2.mpr h.1; omega⟩
                 | exact ⟨fun h => absurd h (by decide), fun h => by have := h.2.1 (by omega); omega⟩
                 | exact ⟨fun h => absurd h (by decide), fun h => by have := h.2.2 (by omega); omega⟩)
      · refine j_iload C dX5_areLawful_18 rfl ?_
        refine j_if_eq C (tgt := 47) dX5_areLawful_20 (by decide) (by first | omega | (refine ⟨?_, ?_⟩ <;> omega) | exact ha | exact hb | exact hw _ _) (fun c_20 => ?_) (fun c_20 => ?_)
        · refine j_iconst C dX5_areLawful_47 ?_
          refine j_goto C (tgt := 52) dX5_areLawful_48 (by decide) ?_
          refine j_istore_n C dX5_areLawful_52 (Nat.le_of_ble_eq_true rfl) ?_
          dsimp only [List.set]
          refine j_iload_n C dX5_areLawful_53 rfl ?_
          refine j_if_eq C (tgt := 103) dX5_areLawful_54 (by decide) (by first | omega | (refine ⟨?_, ?_⟩ <;> omega) | exact ha | exact hb | exact hw _ _) (fun c_54 => ?_) (fun c_54 => ?_)
          · refine j_iconst C dX5_areLawful_103 ?_
            refine j_istore_n C dX5_areLawful_104 (Nat.le_of_ble_eq_true rfl) ?_
            dsimp only [List.set]
            refine j_iinc C dX5_areLawful_105 rfl ?_
            dsimp only [List.set]
            refine j_goto C (tgt := 5) dX5_areLawful_108 (by decide) ?_
            first
            | (exfalso; omega)
            | (refine ih _ (by omega) (i + 1) _ rfl (by omega) (by omega) (by omega) ?_
               rw [show (i + 1).toNat = i.toNat + 1 by omega, lawf_s, e1, e2]
               first
               | exact ⟨fun _ => ⟨hf2.mp (by omega), fun _ => by omega, fun _ => by omega⟩, fun _ => rfl⟩
               | exact ⟨fun h => absurd h (by decide), fun h => by have := hf2.mpr h.1; omega⟩
               | exact ⟨fun h => absurd h (by decide), fun h => by have := h.2.1 (by omega); omega⟩
               | exact ⟨fun h => absurd h (by decide), fun h => by have := h.2.2 (by omega); omega⟩)
          · refine j_iload C dX5_areLawful_57 rfl ?_
            refine j_iconst C dX5_areLawful_59 ?_
            refine j_icmp_lt C (tgt := 99) dX5_areLawful_60 (by decide) (by first | omega | (refine ⟨?_, ?_⟩ <;> omega) | exact ha | exact hb | exact hw _ _) (by first | omega | (refine ⟨?_, ?_⟩ <;> omega) | exact ha | exact hb | exact hw _ _) (fun c_60 => ?_) (fun c_60 => ?_)
            · refine j_iconst C dX5_areLawful_99 ?_
              refine j_goto C (tgt := 104) dX5_areLawful_100 (by decide) ?_
              refine j_istore_n C dX5_areLawful_104 (Nat.le_of_ble_eq_true rfl) ?_
              dsimp only [List.set]
              refine j_iinc C dX5_areLawful_105 rfl ?_
              dsimp only [List.set]
              refine j_goto C (tgt := 5) dX5_areLawful_108 (by decide) ?_
              first
              | (exfalso; omega)
              | (refine ih _ (by omega) (i + 1) _ rfl (by omega) (by omega) (by omega) ?_
                 rw [show (i + 1).toNat = i.toNat + 1 by omega, lawf_s, e1, e2]
                 first
                 | exact ⟨fun _ => ⟨hf2.mp (by omega), fun _ => by omega, fun _ => by omega⟩, fun _ => rfl⟩
                 | exact ⟨fun h => absurd h (by decide), fun h => by have := hf2.mpr h.1; omega⟩
                 | exact ⟨fun h => absurd h (by decide), fun h => by have := h.2.1 (by omega); omega⟩
                 | exact ⟨fun h => absurd h (by decide), fun h => by have := h.2.2 (by omega); omega⟩)
            · refine j_iconst C dX5_areLawful_63 ?_
              refine j_aload_n C dX5_areLawful_64 rfl ?_
              refine j_getR C fX5_areLawful_36 rfl rfl dX5_areLawful_65 ?_
              refine j_iload C dX5_areLawful_68 rfl ?_
              refine j_iconst C dX5_areLawful_70 ?_
              refine j_isub C dX5_areLawful_71 ?_
              refine j_iaload C rfl (by decide) dX5_areLawful_72 (by first | omega | (refine ⟨?_, ?_⟩ <;> omega) | exact ha | exact hb | exact hw _ _) (by first | omega | (refine ⟨?_, ?_⟩ <;> omega) | exact ha | exact hb | exact hw _ _) ?_
              refine j_imul C dX5_areLawful_73 ?_
              refine j_aload_n C dX5_areLawful_74 rfl ?_
              refine j_getR C fX5_areLawful_36 rfl rfl dX5_areLawful_75 ?_
              refine j_iload C dX5_areLawful_78 rfl ?_
              refine j_iaload C rfl (by decide) dX5_areLawful_80 (by first | omega | (refine ⟨?_, ?_⟩ <;> omega) | exact ha | exact hb | exact hw _ _) (by first | omega | (refine ⟨?_, ?_⟩ <;> omega) | exact ha | exact hb | exact hw _ _) ?_
              refine j_isub C dX5_areLawful_81 ?_
              refine j_aload_n C dX5_areLawful_82 rfl ?_
              refine j_getR C fX5_areLawful_36 rfl rfl dX5_areLawful_83 ?_
              refine j_iload C dX5_areLawful_86 rfl ?_
              refine j_iconst C dX5_areLawful_88 ?_
              refine j_isub C dX5_areLawful_89 ?_
              refine j_iaload C rfl (by decide) dX5_areLawful_90 (by first | omega | (refine ⟨?_, ?_⟩ <;> omega) | exact ha | exact hb | exact hw _ _) (by first | omega | (refine ⟨?_, ?_⟩ <;> omega) | exact ha | exact hb | exact hw _ _) ?_
              refine j_isub C dX5_areLawful_91 ?_
              refine j_callSi1 C vX5_areLawful_99 rfl (Nat.le_of_ble_eq_true rfl) ⟨Nat.zero_le _, Nat.zero_le _⟩ dX5_areLawful_92 (ct_X5_size ⟨by omega, by omega⟩) (fun x_92 g_92 hk_92 => ?_)
              obtain ⟨e_92, rfl⟩ := hk_92
              have e_92 := e_92.symm
              subst e_92
              refine j_iload_n C dX5_areLawful_95 rfl ?_
              refine j_icmp_gt C (tgt := 103) dX5_areLawful_96 (by decide) (by first | omega | (refine ⟨?_, ?_⟩ <;> omega) | exact ha | exact hb | exact hw _ _) (by first | omega | (refine ⟨?_, ?_⟩ <;> omega) | exact ha | exact hb | exact hw _ _) (fun c_96 => ?_) (fun c_96 => ?_)
              · refine j_iconst C dX5_areLawful_103 ?_
                refine j_istore_n C dX5_areLawful_104 (Nat.le_of_ble_eq_true rfl) ?_
                dsimp only [List.set]
                refine j_iinc C dX5_areLawful_105 rfl ?_
                dsimp only [List.set]
                refine j_goto C (tgt := 5) dX5_areLawful_108 (by decide) ?_
                first
                | (exfalso; omega)
                | (refine ih _ (by omega) (i + 1) _ rfl (by omega) (by omega) (by omega) ?_
                   rw [show (i + 1).toNat = i.toNat + 1 by omega, lawf_s, e1, e2]
                   first
                   | exact ⟨fun _ => ⟨hf2.mp (by omega), fun _ => by omega, fun _ => by omega⟩, fun _ => rfl⟩
                   | exact ⟨fun h => absurd h (by decide), fun h => by have := hf2.mpr h.1; omega⟩
                   | exact ⟨fun h => absurd h (by decide), fun h => by have := h.2.1 (by omega); omega⟩
                   | exact ⟨fun h => absurd h (by decide), fun h => by have := h.2.2 (by omega); omega⟩)
              · refine j_iconst C dX5_areLawful_99 ?_
                refine j_goto C (tgt := 104) dX5_areLawful_100 (by decide) ?_
                refine j_istore_n C dX5_areLawful_104 (Nat.le_of_ble_eq_true rfl) ?_
                dsimp only [List.set]
                refine j_iinc C dX5_areLawful_105 rfl ?_
                dsimp only [List.set]
                refine j_goto C (tgt := 5) dX5_areLawful_108 (by decide) ?_
                first
                | (exfalso; omega)
                | (refine ih _ (by omega) (i + 1) _ rfl (by omega) (by omega) (by omega) ?_
                   rw [show (i + 1).toNat = i.toNat + 1 by omega, lawf_s, e1, e2]
                   first
                   | exact ⟨fun _ => ⟨hf2.mp (by omega), fun _ => by omega, fun _ => by omega⟩, fun _ => rfl⟩
                   | exact ⟨fun h => absurd h (by decide), fun h => by have := hf2.mpr h.1; omega⟩
                   | exact ⟨fun h => absurd h (by decide), fun h => by have := h.2.1 (by omega); omega⟩
                   | exact ⟨fun h => absurd h (by decide), fun h => by have := h.2.2 (by omega); omega⟩)
        · refine j_aload_n C dX5_areLawful_23 rfl ?_
          refine j_getR C fX5_areLawful_36 rfl rfl dX5_areLawful_24 ?_
          refine j_iload C dX5_areLawful_27 rfl ?_
          refine j_iaload C rfl (by decide) dX5_areLawful_29 (by first | omega | (refine ⟨?_, ?_⟩ <;> omega) | exact ha | exact hb | exact hw _ _) (by first | omega | (refine ⟨?_, ?_⟩ <;> omega) | exact ha | exact hb | exact hw _ _) ?_
          refine j_aload_n C dX5_areLawful_30 rfl ?_
          refine j_getR C fX5_areLawful_36 rfl rfl dX5_areLawful_31 ?_
          refine j_iload C dX5_areLawful_34 rfl ?_
          refine j_iconst C dX5_areLawful_36 ?_
          refine j_isub C dX5_areLawful_37 ?_
          refine j_iaload C rfl (by decide) dX5_areLawful_38 (by first | omega | (refine ⟨?_, ?_⟩ <;> omega) | exact ha | exact hb | exact hw _ _) (by first | omega | (refine ⟨?_, ?_⟩ <;> omega) | exact ha | exact hb | exact hw _ _) ?_
          refine j_isub C dX5_areLawful_39 ?_
          refine j_callSi1 C vX5_areLawful_99 rfl (Nat.le_of_ble_eq_true rfl) ⟨Nat.zero_le _, Nat.zero_le _⟩ dX5_areLawful_40 (ct_X5_size ⟨by omega, by omega⟩) (fun x_40 g_40 hk_40 => ?_)
          obtain ⟨e_40, rfl⟩ := hk_40
          have e_40 := e_40.symm
          subst e_40
          refine j_iload_n C dX5_areLawful_43 rfl ?_
          refine j_icmp_gt C (tgt := 51) dX5_areLawful_44 (by decide) (by first | omega | (refine ⟨?_, ?_⟩ <;> omega) | exact ha | exact hb | exact hw _ _) (by first | omega | (refine ⟨?_, ?_⟩ <;> omega) | exact ha | exact hb | exact hw _ _) (fun c_44 => ?_) (fun c_44 => ?_)
          · refine j_iconst C dX5_areLawful_51 ?_
            refine j_istore_n C dX5_areLawful_52 (Nat.le_of_ble_eq_true rfl) ?_
            dsimp only [List.set]
            refine j_iload_n C dX5_areLawful_53 rfl ?_
            refine j_if_eq C (tgt := 103) dX5_areLawful_54 (by decide) (by first | omega | (refine ⟨?_, ?_⟩ <;> omega) | exact ha | exact hb | exact hw _ _) (fun c_54 => ?_) (fun c_54 => ?_)
            · refine j_iconst C dX5_areLawful_103 ?_
              refine j_istore_n C dX5_areLawful_104 (Nat.le_of_ble_eq_true rfl) ?_
              dsimp only [List.set]
              refine j_iinc C dX5_areLawful_105 rfl ?_
              dsimp only [List.set]
              refine j_goto C (tgt := 5) dX5_areLawful_108 (by decide) ?_
              first
              | (exfalso; omega)
              | (refine ih _ (by omega) (i + 1) _ rfl (by omega) (by omega) (by omega) ?_
                 rw [show (i + 1).toNat = i.toNat + 1 by omega, lawf_s, e1, e2]
                 first
                 | exact ⟨fun _ => ⟨hf2.mp (by omega), fun _ => by omega, fun _ => by omega⟩, fun _ => rfl⟩
                 | exact ⟨fun h => absurd h (by decide), fun h => by have := hf2.mpr h.1; omega⟩
                 | exact ⟨fun h => absurd h (by decide), fun h => by have := h.2.1 (by omega); omega⟩
                 | exact ⟨fun h => absurd h (by decide), fun h => by have := h.2.2 (by omega); omega⟩)
            · refine j_iload C dX5_areLawful_57 rfl ?_
              refine j_iconst C dX5_areLawful_59 ?_
              refine j_icmp_lt C (tgt := 99) dX5_areLawful_60 (by decide) (by first | omega | (refine ⟨?_, ?_⟩ <;> omega) | exact ha | exact hb | exact hw _ _) (by first | omega | (refine ⟨?_, ?_⟩ <;> omega) | exact ha | exact hb | exact hw _ _) (fun c_60 => ?_) (fun c_60 => ?_)
              · refine j_iconst C dX5_areLawful_99 ?_
                refine j_goto C (tgt := 104) dX5_areLawful_100 (by decide) ?_
                refine j_istore_n C dX5_areLawful_104 (Nat.le_of_ble_eq_true rfl) ?_
                dsimp only [List.set]
                refine j_iinc C dX5_areLawful_105 rfl ?_
                dsimp only [List.set]
                refine j_goto C (tgt := 5) dX5_areLawful_108 (by decide) ?_
                first
                | (exfalso; omega)
                | (refine ih _ (by omega) (i + 1) _ rfl (by omega) (by omega) (by omega) ?_
                   rw [show (i + 1).toNat = i.toNat + 1 by omega, lawf_s, e1, e2]
                   first
                   | exact ⟨fun _ => ⟨hf2.mp (by omega), fun _ => by omega, fun _ => by omega⟩, fun _ => rfl⟩
                   | exact ⟨fun h => absurd h (by decide), fun h => by have := hf2.mpr h.1; omega⟩
                   | exact ⟨fun h => absurd h (by decide), fun h => by have := h.2.1 (by omega); omega⟩
                   | exact ⟨fun h => absurd h (by decide), fun h => by have := h.2.2 (by omega); omega⟩)
              · refine j_iconst C dX5_areLawful_63 ?_
                refine j_aload_n C dX5_areLawful_64 rfl ?_
                refine j_getR C fX5_areLawful_36 rfl rfl dX5_areLawful_65 ?_
                refine j_iload C dX5_areLawful_68 rfl ?_
                refine j_iconst C dX5_areLawful_70 ?_
                refine j_isub C dX5_areLawful_71 ?_
                refine j_iaload C rfl (by decide) dX5_areLawful_72 (by first | omega | (refine ⟨?_, ?_⟩ <;> omega) | exact ha | exact hb | exact hw _ _) (by first | omega | (refine ⟨?_, ?_⟩ <;> omega) | exact ha | exact hb | exact hw _ _) ?_
                refine j_imul C dX5_areLawful_73 ?_
                refine j_aload_n C dX5_areLawful_74 rfl ?_
                refine j_getR C fX5_areLawful_36 rfl rfl dX5_areLawful_75 ?_
                refine j_iload C dX5_areLawful_78 rfl ?_
                refine j_iaload C rfl (by decide) dX5_areLawful_80 (by first | omega | (refine ⟨?_, ?_⟩ <;> omega) | exact ha | exact hb | exact hw _ _) (by first | omega | (refine ⟨?_, ?_⟩ <;> omega) | exact ha | exact hb | exact hw _ _) ?_
                refine j_isub C dX5_areLawful_81 ?_
                refine j_aload_n C dX5_areLawful_82 rfl ?_
                refine j_getR C fX5_areLawful_36 rfl rfl dX5_areLawful_83 ?_
                refine j_iload C dX5_areLawful_86 rfl ?_
                refine j_iconst C dX5_areLawful_88 ?_
                refine j_isub C dX5_areLawful_89 ?_
                refine j_iaload C rfl (by decide) dX5_areLawful_90 (by first | omega | (refine ⟨?_, ?_⟩ <;> omega) | exact ha | exact hb | exact hw _ _) (by first | omega | (refine ⟨?_, ?_⟩ <;> omega) | exact ha | exact hb | exact hw _ _) ?_
                refine j_isub C dX5_areLawful_91 ?_
                refine j_callSi1 C vX5_areLawful_99 rfl (Nat.le_of_ble_eq_true rfl) ⟨Nat.zero_le _, Nat.zero_le _⟩ dX5_areLawful_92 (ct_X5_size ⟨by omega, by omega⟩) (fun x_92 g_92 hk_92 => ?_)
                obtain ⟨e_92, rfl⟩ := hk_92
                have e_92 := e_92.symm
                subst e_92
                refine j_iload_n C dX5_areLawful_95 rfl ?_
                refine j_icmp_gt C (tgt := 103) dX5_areLawful_96 (by decide) (by first | omega | (refine ⟨?_, ?_⟩ <;> omega) | exact ha | exact hb | exact hw _ _) (by first | omega | (refine ⟨?_, ?_⟩ <;> omega) | exact ha | exact hb | exact hw _ _) (fun c_96 => ?_) (fun c_96 => ?_)
                · refine j_iconst C dX5_areLawful_103 ?_
                  refine j_istore_n C dX5_areLawful_104 (Nat.le_of_ble_eq_true rfl) ?_
                  dsimp only [List.set]
                  refine j_iinc C dX5_areLawful_105 rfl ?_
                  dsimp only [List.set]
                  refine j_goto C (tgt := 5) dX5_areLawful_108 (by decide) ?_
                  first
                  | (exfalso; omega)
                  | (refine ih _ (by omega) (i + 1) _ rfl (by omega) (by omega) (by omega) ?_
                     rw [show (i + 1).toNat = i.toNat + 1 by omega, lawf_s, e1, e2]
                     first
                     | exact ⟨fun _ => ⟨hf2.mp (by omega), fun _ => by omega, fun _ => by omega⟩, fun _ => rfl⟩
                     | exact ⟨fun h => absurd h (by decide), fun h => by have := hf2.mpr h.1; omega⟩
                     | exact ⟨fun h => absurd h (by decide), fun h => by have := h.2.1 (by omega); omega⟩
                     | exact ⟨fun h => absurd h (by decide), fun h => by have := h.2.2 (by omega); omega⟩)
                · refine j_iconst C dX5_areLawful_99 ?_
                  refine j_goto C (tgt := 104) dX5_areLawful_100 (by decide) ?_
                  refine j_istore_n C dX5_areLawful_104 (Nat.le_of_ble_eq_true rfl) ?_
                  dsimp only [List.set]
                  refine j_iinc C dX5_areLawful_105 rfl ?_
                  dsimp only [List.set]
                  refine j_goto C (tgt := 5) dX5_areLawful_108 (by decide) ?_
                  first
                  | (exfalso; omega)
                  | (refine ih _ (by omega) (i + 1) _ rfl (by omega) (by omega) (by omega) ?_
                     rw [show (i + 1).toNat = i.toNat + 1 by omega, lawf_s, e1, e2]
                     first
                     | exact ⟨fun _ => ⟨hf2.mp (by omega), fun _ => by omega, fun _ => by omega⟩, fun _ => rfl⟩
                     | exact ⟨fun h => absurd h (by decide), fun h => by have := hf2.mpr h.1; omega⟩
                     | exact ⟨fun h => absurd h (by decide), fun h => by have := h.2.1 (by omega); omega⟩
                     | exact ⟨fun h => absurd h (by decide), fun h => by have := h.2.2 (by omega); omega⟩)
          · refine j_iconst C dX5_areLawful_47 ?_
            refine j_goto C (tgt := 52) dX5_areLawful_48 (by decide) ?_
            refine j_istore_n C dX5_areLawful_52 (Nat.le_of_ble_eq_true rfl) ?_
            dsimp only [List.set]
            refine j_iload_n C dX5_areLawful_53 rfl ?_
            refine j_if_eq C (tgt := 103) dX5_areLawful_54 (by decide) (by first | omega | (refine ⟨?_, ?_⟩ <;> omega) | exact ha | exact hb | exact hw _ _) (fun c_54 => ?_) (fun c_54 => ?_)
            · refine j_iconst C dX5_areLawful_103 ?_
              refine j_istore_n C dX5_areLawful_104 (Nat.le_of_ble_eq_true rfl) ?_
              dsimp only [List.set]
              refine j_iinc C dX5_areLawful_105 rfl ?_
              dsimp only [List.set]
              refine j_goto C (tgt := 5) dX5_areLawful_108 (by decide) ?_
              first
              | (exfalso; omega)
              | (refine ih _ (by omega) (i + 1) _ rfl (by omega) (by omega) (by omega) ?_
                 rw [show (i + 1).toNat = i.toNat + 1 by omega, lawf_s, e1, e2]
                 first
                 | exact ⟨fun _ => ⟨hf2.mp (by omega), fun _ => by omega, fun _ => by omega⟩, fun _ => rfl⟩
                 | exact ⟨fun h => absurd h (by decide), fun h => by have := hf2.mpr h.1; omega⟩
                 | exact ⟨fun h => absurd h (by decide), fun h => by have := h.2.1 (by omega); omega⟩
                 | exact ⟨fun h => absurd h (by decide), fun h => by have := h.2.2 (by omega); omega⟩)
            · refine j_iload C dX5_areLawful_57 rfl ?_
              refine j_iconst C dX5_areLawful_59 ?_
              refine j_icmp_lt C (tgt := 99) dX5_areLawful_60 (by decide) (by first | omega | (refine ⟨?_, ?_⟩ <;> omega) | exact ha | exact hb | exact hw _ _) (by first | omega | (refine ⟨?_, ?_⟩ <;> omega) | exact ha | exact hb | exact hw _ _) (fun c_60 => ?_) (fun c_60 => ?_)
              · refine j_iconst C dX5_areLawful_99 ?_
                refine j_goto C (tgt := 104) dX5_areLawful_100 (by decide) ?_
                refine j_istore_n C dX5_areLawful_104 (Nat.le_of_ble_eq_true rfl) ?_
                dsimp only [List.set]
                refine j_iinc C dX5_areLawful_105 rfl ?_
                dsimp only [List.set]
                refine j_goto C (tgt := 5) dX5_areLawful_108 (by decide) ?_
                first
                | (exfalso; omega)
                | (refine ih _ (by omega) (i + 1) _ rfl (by omega) (by omega) (by omega) ?_
                   rw [show (i + 1).toNat = i.toNat + 1 by omega, lawf_s, e1, e2]
                   first
                   | exact ⟨fun _ => ⟨hf2.mp (by omega), fun _ => by omega, fun _ => by omega⟩, fun _ => rfl⟩
                   | exact ⟨fun h => absurd h (by decide), fun h => by have := hf2.mpr h.1; omega⟩
                   | exact ⟨fun h => absurd h (by decide), fun h => by have := h.2.1 (by omega); omega⟩
                   | exact ⟨fun h => absurd h (by decide), fun h => by have := h.2.2 (by omega); omega⟩)
              · refine j_iconst C dX5_areLawful_63 ?_
                refine j_aload_n C dX5_areLawful_64 rfl ?_
                refine j_getR C fX5_areLawful_36 rfl rfl dX5_areLawful_65 ?_
                refine j_iload C dX5_areLawful_68 rfl ?_
                refine j_iconst C dX5_areLawful_70 ?_
                refine j_isub C dX5_areLawful_71 ?_
                refine j_iaload C rfl (by decide) dX5_areLawful_72 (by first | omega | (refine ⟨?_, ?_⟩ <;> omega) | exact ha | exact hb | exact hw _ _) (by first | omega | (refine ⟨?_, ?_⟩ <;> omega) | exact ha | exact hb | exact hw _ _) ?_
                refine j_imul C dX5_areLawful_73 ?_
                refine j_aload_n C dX5_areLawful_74 rfl ?_
                refine j_getR C fX5_areLawful_36 rfl rfl dX5_areLawful_75 ?_
                refine j_iload C dX5_areLawful_78 rfl ?_
                refine j_iaload C rfl (by decide) dX5_areLawful_80 (by first | omega | (refine ⟨?_, ?_⟩ <;> omega) | exact ha | exact hb | exact hw _ _) (by first | omega | (refine ⟨?_, ?_⟩ <;> omega) | exact ha | exact hb | exact hw _ _) ?_
                refine j_isub C dX5_areLawful_81 ?_
                refine j_aload_n C dX5_areLawful_82 rfl ?_
                refine j_getR C fX5_areLawful_36 rfl rfl dX5_areLawful_83 ?_
                refine j_iload C dX5_areLawful_86 rfl ?_
                refine j_iconst C dX5_areLawful_88 ?_
                refine j_isub C dX5_areLawful_89 ?_
                refine j_iaload C rfl (by decide) dX5_areLawful_90 (by first | omega | (refine ⟨?_, ?_⟩ <;> omega) | exact ha | exact hb | exact hw _ _) (by first | omega | (refine ⟨?_, ?_⟩ <;> omega) | exact ha | exact hb | exact hw _ _) ?_
                refine j_isub C dX5_areLawful_91 ?_
                refine j_callSi1 C vX5_areLawful_99 rfl (Nat.le_of_ble_eq_true rfl) ⟨Nat.zero_le _, Nat.zero_le _⟩ dX5_areLawful_92 (ct_X5_size ⟨by omega, by omega⟩) (fun x_92 g_92 hk_92 => ?_)
                obtain ⟨e_92, rfl⟩ := hk_92
                have e_92 := e_92.symm
                subst e_92
                refine j_iload_n C dX5_areLawful_95 rfl ?_
                refine j_icmp_gt C (tgt := 103) dX5_areLawful_96 (by decide) (by first | omega | (refine ⟨?_, ?_⟩ <;> omega) | exact ha | exact hb | exact hw _ _) (by first | omega | (refine ⟨?_, ?_⟩ <;> omega) | exact ha | exact hb | exact hw _ _) (fun c_96 => ?_) (fun c_96 => ?_)
                · refine j_iconst C dX5_areLawful_103 ?_
                  refine j_istore_n C dX5_areLawful_104 (Nat.le_of_ble_eq_true rfl) ?_
                  dsimp only [List.set]
                  refine j_iinc C dX5_areLawful_105 rfl ?_
                  dsimp only [List.set]
                  refine j_goto C (tgt := 5) dX5_areLawful_108 (by decide) ?_
                  first
                  | (exfalso; omega)
                  | (refine ih _ (by omega) (i + 1) _ rfl (by omega) (by omega) (by omega) ?_
                     rw [show (i + 1).toNat = i.toNat + 1 by omega, lawf_s, e1, e2]
                     first
                     | exact ⟨fun _ => ⟨hf2.mp (by omega), fun _ => by omega, fun _ => by omega⟩, fun _ => rfl⟩
                     | exact ⟨fun h => absurd h (by decide), fun h => by have := hf2.mpr h.1; omega⟩
                     | exact ⟨fun h => absurd h (by decide), fun h => by have := h.2.1 (by omega); omega⟩
                     | exact ⟨fun h => absurd h (by decide), fun h => by have := h.2.2 (by omega); omega⟩)
                · refine j_iconst C dX5_areLawful_99 ?_
                  refine j_goto C (tgt := 104) dX5_areLawful_100 (by decide) ?_
                  refine j_istore_n C dX5_areLawful_104 (Nat.le_of_ble_eq_true rfl) ?_
                  dsimp only [List.set]
                  refine j_iinc C dX5_areLawful_105 rfl ?_
                  dsimp only [List.set]
                  refine j_goto C (tgt := 5) dX5_areLawful_108 (by decide) ?_
                  first
                  | (exfalso; omega)
                  | (refine ih _ (by omega) (i + 1) _ rfl (by omega) (by omega) (by omega) ?_
                     rw [show (i + 1).toNat = i.toNat + 1 by omega, lawf_s, e1, e2]
                     first
                     | exact ⟨fun _ => ⟨hf2.mp (by omega), fun _ => by omega, fun _ => by omega⟩, fun _ => rfl⟩
                     | exact ⟨fun h => absurd h (by decide), fun h => by have := hf2.mpr h.1; omega⟩
                     | exact ⟨fun h => absurd h (by decide), fun h => by have := h.2.1 (by omega); omega⟩
                     | exact ⟨fun h => absurd h (by decide), fun h => by have := h.2.2 (by omega); omega⟩)
  refine j_iconst C dX5_areLawful_0 ?_
  refine j_istore_n C dX5_areLawful_1 (Nat.le_of_ble_eq_true rfl) ?_
  dsimp only [List.set]
  refine j_iconst C dX5_areLawful_2 ?_
  refine j_istore C dX5_areLawful_3 (Nat.le_of_ble_eq_true rfl) ?_
  dsimp only [List.set]
  exact lp _ 0 1 rfl (by omega) (by omega) (Or.inr rfl) ⟨fun _ j hj => absurd hj (by simp), fun _ => rfl⟩
set_option maxHeartbeats 4000000 in
set_option maxRecDepth 100000 in
theorem ct_X5_laws {a b : Int} {g : AG} (h : LM g ∧ aR a ∧ aR b) : MetI yX5_laws wsX5_laws rmX5_laws ShW [.inr 21, .inl a, .inl b] g (fun x g' => x = rLaws (g 29) (g 21 0) a b ∧ g' = (if x = 1 then aset (aset g 21 10 a) 21 11 b else g)) := by
  refine metI_of (cc := cX5_laws) (nL := 3) false (by decide +kernel) rfl (Nat.le_of_ble_eq_true rfl) (fun q J C => ?_)
  show J q ShW 0 0 0 [some (.inr 21), some (.inl a), some (.inl b)] [] g
  refine j_wf C (fun hw => ?_)
  obtain ⟨hL, ha, hb⟩ := h
  refine j_iload_n C dX5_laws_0 rfl ?_
  refine j_iconst C dX5_laws_1 ?_
  refine j_bipush C dX5_laws_2 (by decide +kernel) ?_
  refine j_callSi3 C vX5_laws_75 rfl (Nat.le_of_ble_eq_true rfl) ⟨Nat.zero_le _, Nat.zero_le _⟩ dX5_laws_4 (ct_X5_in ⟨ha, ⟨by omega, by omega⟩, ⟨by omega, by omega⟩⟩) (fun x_4 g_4 hk_4 => ?_)
  obtain ⟨e_4, hb_4, hi_4⟩ := hk_4
  have e_4 := e_4.symm
  subst e_4
  refine j_if_eq C (tgt := 20) dX5_laws_7 (by decide) (by first | omega | (refine ⟨?_, ?_⟩ <;> omega) | exact hw _ _ | exact nrm_R _) (fun c_7 => ?_) (fun c_7 => ?_)
  · refine j_bipush C dX5_laws_20 (by decide +kernel) ?_
    refine j_iretI C dX5_laws_22 (by intro h; cases h) (fun hw9 => ?_)
    unfold rLaws
    rw [if_neg (by omega)]
    exact ⟨rfl, by rw [if_neg (by decide)]⟩
  · refine j_iload_n C dX5_laws_10 rfl ?_
    refine j_iconst C dX5_laws_11 ?_
    refine j_bipush C dX5_laws_12 (by decide +kernel) ?_
    refine j_callSi3 C vX5_laws_75 rfl (Nat.le_of_ble_eq_true rfl) ⟨Nat.zero_le _, Nat.zero_le _⟩ dX5_laws_14 (ct_X5_in ⟨hb, ⟨by omega, by omega⟩, ⟨by omega, by omega⟩⟩) (fun x_14 g_14 hk_14 => ?_)
    obtain ⟨e_14, hb_14, hi_14⟩ := hk_14
    have e_14 := e_14.symm
    subst e_14
    refine j_if_ne C (tgt := 23) dX5_laws_17 (by decide) (by first | omega | (refine ⟨?_, ?_⟩ <;> omega) | exact hw _ _ | exact nrm_R _) (fun c_17 => ?_) (fun c_17 => ?_)
    · refine j_aload_n C dX5_laws_23 rfl ?_
      refine j_iload_n C dX5_laws_24 rfl ?_
      refine j_iload_n C dX5_laws_25 rfl ?_
      refine j_callVi2 C vX5_laws_102 rfl rfl (Nat.le_of_ble_eq_true rfl) ⟨Nat.zero_le _, Nat.zero_le _⟩ dX5_laws_26 (ct_X5_areLawful ⟨hL, ha, hb⟩) (fun x_26 g_26 hk_26 => ?_)
      obtain ⟨e_26, hb_26, hi_26⟩ := hk_26
      have e_26 := e_26.symm
      subst e_26
      refine j_if_ne C (tgt := 35) dX5_laws_29 (by decide) (by first | omega | (refine ⟨?_, ?_⟩ <;> omega) | exact hw _ _ | exact nrm_R _) (fun c_29 => ?_) (fun c_29 => ?_)
      · refine j_aload_n C dX5_laws_35 rfl ?_
        refine j_iload_n C dX5_laws_36 rfl ?_
        refine j_putI C pX5_laws_39 rfl rfl (by first | omega | (refine ⟨?_, ?_⟩ <;> omega) | exact hw _ _ | exact nrm_R _) (by intro h; cases h) dX5_laws_37 ?_
        refine j_aload_n C dX5_laws_40 rfl ?_
        refine j_iload_n C dX5_laws_41 rfl ?_
        refine j_putI C pX5_laws_42 rfl rfl (by first | omega | (refine ⟨?_, ?_⟩ <;> omega) | exact hw _ _ | exact nrm_R _) (by intro h; cases h) dX5_laws_42 ?_
        refine j_iconst C dX5_laws_45 ?_
        refine j_iretI C dX5_laws_46 (by intro h; cases h) (fun hw9 => ?_)
        unfold rLaws
        rw [if_pos (by omega), cif_t (hi_26.mp (by omega))]
        exact ⟨rfl, by rw [if_pos rfl]⟩
      · refine j_bipush C dX5_laws_32 (by decide +kernel) ?_
        refine j_iretI C dX5_laws_34 (by intro h; cases h) (fun hw9 => ?_)
        unfold rLaws
        rw [if_pos (by omega), cif_f (fun h => by have := hi_26.mpr h; omega)]
        exact ⟨rfl, by rw [if_neg (by decide)]⟩
    · refine j_bipush C dX5_laws_20 (by decide +kernel) ?_
      refine j_iretI C dX5_laws_22 (by intro h; cases h) (fun hw9 => ?_)
      unfold rLaws
      rw [if_neg (by omega)]
      exact ⟨rfl, by rw [if_neg (by decide)]⟩
set_option maxHeartbeats 4000000 in
set_option maxRecDepth 100000 in
theorem ct_X5_spread {a b : Int} {g : AG} (h : aR a ∧ aR b) : MetI yX5_spread wsX5_spread rmX5_spread ShW [.inr 21, .inl a, .inl b] g (fun x g' => x = rSpread a b ∧ g' = (if x = 1 then aset (aset g 21 12 a) 21 13 b else g)) := by
  refine metI_of (cc := cX5_spread) (nL := 3) false (by decide +kernel) rfl (Nat.le_of_ble_eq_true rfl) (fun q J C => ?_)
  show J q ShW 0 0 0 [some (.inr 21), some (.inl a), some (.inl b)] [] g
  refine j_wf C (fun hw => ?_)
  obtain ⟨ha, hb⟩ := h
  refine j_iload_n C dX5_spread_0 rfl ?_
  refine j_iconst C dX5_spread_1 ?_
  refine j_bipush C dX5_spread_2 (by decide +kernel) ?_
  refine j_callSi3 C vX5_spread_75 rfl (Nat.le_of_ble_eq_true rfl) ⟨Nat.zero_le _, Nat.zero_le _⟩ dX5_spread_4 (ct_X5_in ⟨ha, ⟨by omega, by omega⟩, ⟨by omega, by omega⟩⟩) (fun x_4 g_4 hk_4 => ?_)
  obtain ⟨e_4, hb_4, hi_4⟩ := hk_4
  have e_4 := e_4.symm
  subst e_4
  refine j_if_eq C (tgt := 20) dX5_spread_7 (by decide) (by first | omega | (refine ⟨?_, ?_⟩ <;> omega) | exact hw _ _ | exact nrm_R _) (fun c_7 => ?_) (fun c_7 => ?_)
  · refine j_bipush C dX5_spread_20 (by decide +kernel) ?_
    refine j_iretI C dX5_spread_22 (by intro h; cases h) (fun hw9 => ?_)
    unfold rSpread
    rw [if_neg (by omega)]
    exact ⟨rfl, by rw [if_neg (by decide)]⟩
  · refine j_iload_n C dX5_spread_10 rfl ?_
    refine j_bipush C dX5_spread_11 (by decide +kernel) ?_
    refine j_iconst C dX5_spread_13 ?_
    refine j_callSi3 C vX5_spread_75 rfl (Nat.le_of_ble_eq_true rfl) ⟨Nat.zero_le _, Nat.zero_le _⟩ dX5_spread_14 (ct_X5_in ⟨hb, ⟨by omega, by omega⟩, ⟨by omega, by omega⟩⟩) (fun x_14 g_14 hk_14 => ?_)
    obtain ⟨e_14, hb_14, hi_14⟩ := hk_14
    have e_14 := e_14.symm
    subst e_14
    refine j_if_ne C (tgt := 23) dX5_spread_17 (by decide) (by first | omega | (refine ⟨?_, ?_⟩ <;> omega) | exact hw _ _ | exact nrm_R _) (fun c_17 => ?_) (fun c_17 => ?_)
    · refine j_aload_n C dX5_spread_23 rfl ?_
      refine j_iload_n C dX5_spread_24 rfl ?_
      refine j_putI C pX5_spread_45 rfl rfl (by first | omega | (refine ⟨?_, ?_⟩ <;> omega) | exact hw _ _ | exact nrm_R _) (by intro h; cases h) dX5_spread_25 ?_
      refine j_aload_n C dX5_spread_28 rfl ?_
      refine j_iload_n C dX5_spread_29 rfl ?_
      refine j_putI C pX5_spread_106 rfl rfl (by first | omega | (refine ⟨?_, ?_⟩ <;> omega) | exact hw _ _ | exact nrm_R _) (by intro h; cases h) dX5_spread_30 ?_
      refine j_iconst C dX5_spread_33 ?_
      refine j_iretI C dX5_spread_34 (by intro h; cases h) (fun hw9 => ?_)
      unfold rSpread
      rw [if_pos (by omega)]
      exact ⟨rfl, by rw [if_pos rfl]⟩
    · refine j_bipush C dX5_spread_20 (by decide +kernel) ?_
      refine j_iretI C dX5_spread_22 (by intro h; cases h) (fun hw9 => ?_)
      unfold rSpread
      rw [if_neg (by omega)]
      exact ⟨rfl, by rw [if_neg (by decide)]⟩
set_option maxHeartbeats 4000000 in
set_option maxRecDepth 100000 in
theorem ct_X5_base {p v : Int} {g : AG} (h : aR p ∧ aR v ∧ 2 ≤ g 21 0 ∧ g 21 0 ≤ 24) : MetI yX5_base wsX5_base rmX5_base ShW [.inr 21, .inl p, .inl v] g (fun x g' => x = rBase (g 21 0) p v ∧ g' = (if x = 1 then aset g 28 p.toNat v else g)) := by
  refine metI_of (cc := cX5_base) (nL := 3) false (by decide +kernel) rfl (Nat.le_of_ble_eq_true rfl) (fun q J C => ?_)
  show J q ShW 0 0 0 [some (.inr 21), some (.inl p), some (.inl v)] [] g
  refine j_wf C (fun hw => ?_)
  obtain ⟨hp, hv, h2, h3⟩ := h
  refine j_aload_n C dX5_base_0 rfl ?_
  refine j_iload_n C dX5_base_1 rfl ?_
  refine j_callVi1 C vX5_base_85 rfl rfl (Nat.le_of_ble_eq_true rfl) ⟨Nat.zero_le _, Nat.zero_le _⟩ dX5_base_2 (ct_X5_isPlace ⟨hp, h2, h3⟩) (fun x_2 g_2 hk_2 => ?_)
  obtain ⟨e_2, hb_2, hi_2⟩ := hk_2
  have e_2 := e_2.symm
  subst e_2
  refine j_if_ne C (tgt := 10) dX5_base_5 (by decide) (by first | omega | (refine ⟨?_, ?_⟩ <;> omega) | exact hw _ _ | exact nrm_R _) (fun c_5 => ?_) (fun c_5 => ?_)
  · refine j_iload_n C dX5_base_10 rfl ?_
    refine j_sipush C dX5_base_11 (by decide +kernel) ?_
    refine j_sipush C dX5_base_14 (by decide +kernel) ?_
    refine j_callSi3 C vX5_base_75 rfl (Nat.le_of_ble_eq_true rfl) ⟨Nat.zero_le _, Nat.zero_le _⟩ dX5_base_17 (ct_X5_in ⟨hv, ⟨by omega, by omega⟩, ⟨by omega, by omega⟩⟩) (fun x_17 g_17 hk_17 => ?_)
    obtain ⟨e_17, hb_17, hi_17⟩ := hk_17
    have e_17 := e_17.symm
    subst e_17
    refine j_if_ne C (tgt := 26) dX5_base_20 (by decide) (by first | omega | (refine ⟨?_, ?_⟩ <;> omega) | exact hw _ _ | exact nrm_R _) (fun c_20 => ?_) (fun c_20 => ?_)
    · refine j_aload_n C dX5_base_26 rfl ?_
      refine j_getR C fX5_base_33 rfl rfl dX5_base_27 ?_
      refine j_iload_n C dX5_base_30 rfl ?_
      refine j_iload_n C dX5_base_31 rfl ?_
      refine j_iastore C rfl (by decide) dX5_base_32 (by first | omega | (refine ⟨?_, ?_⟩ <;> omega) | exact hw _ _ | exact nrm_R _) (by first | omega | (refine ⟨?_, ?_⟩ <;> omega) | exact hw _ _ | exact nrm_R _) (by first | omega | (refine ⟨?_, ?_⟩ <;> omega) | exact hw _ _ | exact nrm_R _) ?_
      refine j_iconst C dX5_base_33 ?_
      refine j_iretI C dX5_base_34 (by intro h; cases h) (fun hw9 => ?_)
      unfold rBase
      rw [if_neg (by omega), if_pos (by omega)]
      exact ⟨rfl, by rw [if_pos rfl]⟩
    · refine j_bipush C dX5_base_23 (by decide +kernel) ?_
      refine j_iretI C dX5_base_25 (by intro h; cases h) (fun hw9 => ?_)
      unfold rBase
      rw [if_neg (by omega), if_neg (by omega)]
      exact ⟨rfl, by rw [if_neg (by decide)]⟩
  · refine j_iconst C dX5_base_8 ?_
    refine j_iretI C dX5_base_9 (by intro h; cases h) (fun hw9 => ?_)
    unfold rBase
    rw [if_pos (by omega)]
    exact ⟨rfl, by rw [if_neg (by decide)]⟩
set_option maxHeartbeats 4000000 in
set_option maxRecDepth 100000 in
theorem ct_X5_set {p v : Int} {g : AG} (h : LM g ∧ aR p ∧ aR v) : MetI yX5_set wsX5_set rmX5_set ShW [.inr 21, .inl p, .inl v] g (fun x g' => x = rSet (g 29) (g 21 0) (g 21 10) (g 21 11) p v ∧ g' = (if x = 1 then aset g 29 p.toNat v else g)) := by
  refine metI_of (cc := cX5_set) (nL := 4) false (by decide +kernel) rfl (Nat.le_of_ble_eq_true rfl) (fun q J C => ?_)
  show J q ShW 0 0 0 [some (.inr 21), some (.inl p), some (.inl v), none] [] g
  refine j_wf C (fun hw => ?_)
  obtain ⟨hL, hp, hv⟩ := h
  have hn := hL.1
  refine j_aload_n C dX5_set_0 rfl ?_
  refine j_iload_n C dX5_set_1 rfl ?_
  refine j_callVi1 C vX5_set_85 rfl rfl (Nat.le_of_ble_eq_true rfl) ⟨Nat.zero_le _, Nat.zero_le _⟩ dX5_set_2 (ct_X5_isPlace ⟨hp, by omega, by omega⟩) (fun x_2 g_2 hk_2 => ?_)
  obtain ⟨e_2, hb_2, hi_2⟩ := hk_2
  have e_2 := e_2.symm
  subst e_2
  refine j_if_ne C (tgt := 10) dX5_set_5 (by decide) (by first | omega | (refine ⟨?_, ?_⟩ <;> omega) | exact hw _ _ | exact nrm_R _) (fun c_5 => ?_) (fun c_5 => ?_)
  · refine j_iload_n C dX5_set_10 rfl ?_
    refine j_bipush C dX5_set_11 (by decide +kernel) ?_
    refine j_bipush C dX5_set_13 (by decide +kernel) ?_
    refine j_callSi3 C vX5_set_75 rfl (Nat.le_of_ble_eq_true rfl) ⟨Nat.zero_le _, Nat.zero_le _⟩ dX5_set_15 (ct_X5_in ⟨hv, ⟨by omega, by omega⟩, ⟨by omega, by omega⟩⟩) (fun x_15 g_15 hk_15 => ?_)
    obtain ⟨e_15, hb_15, hi_15⟩ := hk_15
    have e_15 := e_15.symm
    subst e_15
    refine j_if_ne C (tgt := 24) dX5_set_18 (by decide) (by first | omega | (refine ⟨?_, ?_⟩ <;> omega) | exact hw _ _ | exact nrm_R _) (fun c_18 => ?_) (fun c_18 => ?_)
    · refine j_aload_n C dX5_set_24 rfl ?_
      refine j_getR C fX5_set_36 rfl rfl dX5_set_25 ?_
      refine j_iload_n C dX5_set_28 rfl ?_
      refine j_iaload C rfl (by decide) dX5_set_29 (by first | omega | (refine ⟨?_, ?_⟩ <;> omega) | exact hw _ _ | exact nrm_R _) (by first | omega | (refine ⟨?_, ?_⟩ <;> omega) | exact hw _ _ | exact nrm_R _) ?_
      refine j_istore_n C dX5_set_30 (Nat.le_of_ble_eq_true rfl) ?_
      dsimp only [List.set]
      refine j_aload_n C dX5_set_31 rfl ?_
      refine j_getR C fX5_set_36 rfl rfl dX5_set_32 ?_
      refine j_iload_n C dX5_set_35 rfl ?_
      refine j_iload_n C dX5_set_36 rfl ?_
      refine j_iastore C rfl (by decide) dX5_set_37 (by first | omega | (refine ⟨?_, ?_⟩ <;> omega) | exact hw _ _ | exact nrm_R _) (by first | omega | (refine ⟨?_, ?_⟩ <;> omega) | exact hw _ _ | exact nrm_R _) (by first | omega | (refine ⟨?_, ?_⟩ <;> omega) | exact hw _ _ | exact nrm_R _) ?_
      refine j_aload_n C dX5_set_38 rfl ?_
      refine j_aload_n C dX5_set_39 rfl ?_
      refine j_getI C fX5_set_39 rfl rfl dX5_set_40 ?_
      refine j_aload_n C dX5_set_43 rfl ?_
      refine j_getI C fX5_set_42 rfl rfl dX5_set_44 ?_
      refine j_callVi2 C vX5_set_102 rfl rfl (Nat.le_of_ble_eq_true rfl) ⟨Nat.zero_le _, Nat.zero_le _⟩ dX5_set_47 (ct_X5_areLawful ⟨LM_set hL (by omega) (by omega), hw _ _, hw _ _⟩) (fun x_47 g_47 hk_47 => ?_)
      obtain ⟨e_47, hb_47, hi_47⟩ := hk_47
      have e_47 := e_47.symm
      subst e_47
      refine j_if_ne C (tgt := 63) dX5_set_50 (by decide) (by first | omega | (refine ⟨?_, ?_⟩ <;> omega) | exact hw _ _ | exact nrm_R _) (fun c_50 => ?_) (fun c_50 => ?_)
      · refine j_iconst C dX5_set_63 ?_
        refine j_iretI C dX5_set_64 (by intro h; cases h) (fun hw9 => ?_)
        rw [aset_at] at hi_47
        unfold rSet
        rw [if_neg (by omega), if_pos (by omega), cif_t (show lawf (fun j => if j = p.toNat then v else g 29 j) (g 21 0).toNat (g 21 10) (g 21 11) from hi_47.mp (by omega))]
        exact ⟨rfl, by rw [if_pos rfl]⟩
      · refine j_aload_n C dX5_set_53 rfl ?_
        refine j_getR C fX5_set_36 rfl rfl dX5_set_54 ?_
        refine j_iload_n C dX5_set_57 rfl ?_
        refine j_iload_n C dX5_set_58 rfl ?_
        refine j_iastore C rfl (by decide) dX5_set_59 (by first | omega | (refine ⟨?_, ?_⟩ <;> omega) | exact hw _ _ | exact nrm_R _) (by first | omega | (refine ⟨?_, ?_⟩ <;> omega) | exact hw _ _ | exact nrm_R _) (by first | omega | (refine ⟨?_, ?_⟩ <;> omega) | exact hw _ _ | exact nrm_R _) ?_
        refine j_bipush C dX5_set_60 (by decide +kernel) ?_
        refine j_iretI C dX5_set_62 (by intro h; cases h) (fun hw9 => ?_)
        rw [aset_at] at hi_47
        unfold rSet
        rw [if_neg (by omega), if_pos (by omega), cif_f (fun h => by have := hi_47.mpr h; omega)]
        exact ⟨rfl, by rw [if_neg (by decide)]; exact aset_back rfl⟩
    · refine j_bipush C dX5_set_21 (by decide +kernel) ?_
      refine j_iretI C dX5_set_23 (by intro h; cases h) (fun hw9 => ?_)
      unfold rSet
      rw [if_neg (by omega), if_neg (by omega)]
      exact ⟨rfl, by rw [if_neg (by decide)]⟩
  · refine j_iconst C dX5_set_8 ?_
    refine j_iretI C dX5_set_9 (by intro h; cases h) (fun hw9 => ?_)
    unfold rSet
    rw [if_pos (by omega)]
    exact ⟨rfl, by rw [if_neg (by decide)]⟩
set_option maxHeartbeats 4000000 in
set_option maxRecDepth 100000 in
theorem ct_X5_about {p w : Int} {g : AG} (h : LM g ∧ aR p ∧ aR w) : MetI yX5_about wsX5_about rmX5_about ShW [.inr 21, .inl p, .inl w] g (fun x g' => g' = g ∧ x = rAbout (g 28) (g 29) (g 21 12) (g 21 13) (g 21 0) p w) := by
  refine metI_of (cc := cX5_about) (nL := 3) false (by decide +kernel) rfl (Nat.le_of_ble_eq_true rfl) (fun q J C => ?_)
  show J q ShW 0 0 0 [some (.inr 21), some (.inl p), some (.inl w)] [] g
  refine j_wf C (fun hw => ?_)
  obtain ⟨hL, hp, hv⟩ := h
  have hn := hL.1
  refine j_aload_n C dX5_about_0 rfl ?_
  refine j_iload_n C dX5_about_1 rfl ?_
  refine j_callVi1 C vX5_about_85 rfl rfl (Nat.le_of_ble_eq_true rfl) ⟨Nat.zero_le _, Nat.zero_le _⟩ dX5_about_2 (ct_X5_isPlace ⟨hp, by omega, by omega⟩) (fun x_2 g_2 hk_2 => ?_)
  obtain ⟨e_2, hb_2, hi_2⟩ := hk_2
  have e_2 := e_2.symm
  subst e_2
  refine j_if_ne C (tgt := 11) dX5_about_5 (by decide) (by first | omega | (refine ⟨?_, ?_⟩ <;> omega) | exact hv) (fun c_5 => ?_) (fun c_5 => ?_)
  · refine j_iload_n C dX5_about_11 rfl ?_
    refine j_if_ne C (tgt := 24) dX5_about_12 (by decide) (by first | omega | (refine ⟨?_, ?_⟩ <;> omega) | exact hv) (fun c_12 => ?_) (fun c_12 => ?_)
    · refine j_iload_n C dX5_about_24 rfl ?_
      refine j_iconst C dX5_about_25 ?_
      refine j_icmp_ne C (tgt := 38) dX5_about_26 (by decide) (by first | omega | (refine ⟨?_, ?_⟩ <;> omega) | exact hv) (by first | omega | (refine ⟨?_, ?_⟩ <;> omega) | exact hv) (fun c_26 => ?_) (fun c_26 => ?_)
      · refine j_iload_n C dX5_about_38 rfl ?_
        refine j_iconst C dX5_about_39 ?_
        refine j_icmp_ne C (tgt := 51) dX5_about_40 (by decide) (by first | omega | (refine ⟨?_, ?_⟩ <;> omega) | exact hv) (by first | omega | (refine ⟨?_, ?_⟩ <;> omega) | exact hv) (fun c_40 => ?_) (fun c_40 => ?_)
        · refine j_ldc C (-1000002) dX5_about_51 kX5_about_90 ?_
          refine j_iretI C dX5_about_53 (by intro h; cases h) (fun hw9 => ?_)
          refine ⟨rfl, ?_⟩
          unfold rAbout
          rw [if_neg (by omega)]
          first
          | (rw [if_pos c_12]; done)
          | (rw [if_neg c_12, if_pos c_26]; done)
          | (rw [if_neg c_12, if_neg c_26, if_pos c_40]; done)
          | (rw [if_neg c_12, if_neg c_26, if_neg c_40]; done)
        · refine j_aload_n C dX5_about_43 rfl ?_
          refine j_iload_n C dX5_about_44 rfl ?_
          refine j_callVi1 C vX5_about_109 rfl rfl (Nat.le_of_ble_eq_true rfl) ⟨Nat.zero_le _, Nat.zero_le _⟩ dX5_about_45 (ct_X5_error ⟨hL, by omega, by omega⟩) (fun x_45 g_45 hk_45 => ?_)
          obtain ⟨e_45, rfl⟩ := hk_45
          have e_45 := e_45.symm
          subst e_45
          refine j_goto C (tgt := 53) dX5_about_48 (by decide) ?_
          refine j_iretI C dX5_about_53 (by intro h; cases h) (fun hw9 => ?_)
          refine ⟨rfl, ?_⟩
          unfold rAbout
          rw [if_neg (by omega)]
          first
          | (rw [if_pos c_12]; done)
          | (rw [if_neg c_12, if_pos c_26]; done)
          | (rw [if_neg c_12, if_neg c_26, if_pos c_40]; done)
          | (rw [if_neg c_12, if_neg c_26, if_neg c_40]; done)
      · refine j_aload_n C dX5_about_29 rfl ?_
        refine j_getR C fX5_about_33 rfl rfl dX5_about_30 ?_
        refine j_iload_n C dX5_about_33 rfl ?_
        refine j_iaload C rfl (by decide) dX5_about_34 (by first | omega | (refine ⟨?_, ?_⟩ <;> omega) | exact hv) (by first | omega | (refine ⟨?_, ?_⟩ <;> omega) | exact hv) ?_
        refine j_goto C (tgt := 53) dX5_about_35 (by decide) ?_
        refine j_iretI C dX5_about_53 (by intro h; cases h) (fun hw9 => ?_)
        refine ⟨rfl, ?_⟩
        unfold rAbout
        rw [if_neg (by omega)]
        first
        | (rw [if_pos c_12]; done)
        | (rw [if_neg c_12, if_pos c_26]; done)
        | (rw [if_neg c_12, if_neg c_26, if_pos c_40]; done)
        | (rw [if_neg c_12, if_neg c_26, if_neg c_40]; done)
    · refine j_aload_n C dX5_about_15 rfl ?_
      refine j_getR C fX5_about_36 rfl rfl dX5_about_16 ?_
      refine j_iload_n C dX5_about_19 rfl ?_
      refine j_iaload C rfl (by decide) dX5_about_20 (by first | omega | (refine ⟨?_, ?_⟩ <;> omega) | exact hv) (by first | omega | (refine ⟨?_, ?_⟩ <;> omega) | exact hv) ?_
      refine j_goto C (tgt := 53) dX5_about_21 (by decide) ?_
      refine j_iretI C dX5_about_53 (by intro h; cases h) (fun hw9 => ?_)
      refine ⟨rfl, ?_⟩
      unfold rAbout
      rw [if_neg (by omega)]
      first
      | (rw [if_pos c_12]; done)
      | (rw [if_neg c_12, if_pos c_26]; done)
      | (rw [if_neg c_12, if_neg c_26, if_pos c_40]; done)
      | (rw [if_neg c_12, if_neg c_26, if_neg c_40]; done)
  · refine j_ldc C (-1000001) dX5_about_8 kX5_about_89 ?_
    refine j_iretI C dX5_about_10 (by intro h; cases h) (fun hw9 => ?_)
    exact ⟨rfl, by unfold rAbout; rw [if_pos (by omega)]⟩
set_option maxHeartbeats 4000000 in
set_option maxRecDepth 100000 in
theorem ct_X5_uneven {k : Int} {g : AG} (h : LM g ∧ aR k) : MetI yX5_uneven wsX5_uneven rmX5_uneven ShW [.inr 21, .inl k] g (fun x g' => g' = g ∧ x = rUneven (szM g) (g 21 0) k) := by
  refine metI_of (cc := cX5_uneven) (nL := 2) false (by decide +kernel) rfl (Nat.le_of_ble_eq_true rfl) (fun q J C => ?_)
  show J q ShW 0 0 0 [some (.inr 21), some (.inl k)] [] g
  refine j_wf C (fun hw => ?_)
  obtain ⟨hL, hk⟩ := h
  refine j_iload_n C dX5_uneven_0 rfl ?_
  refine j_iconst C dX5_uneven_1 ?_
  refine j_iconst C dX5_uneven_2 ?_
  refine j_callSi3 C vX5_uneven_75 rfl (Nat.le_of_ble_eq_true rfl) ⟨Nat.zero_le _, Nat.zero_le _⟩ dX5_uneven_3 (ct_X5_in ⟨hk, ⟨by omega, by omega⟩, ⟨by omega, by omega⟩⟩) (fun x_3 g_3 hk_3 => ?_)
  obtain ⟨e_3, hb_3, hi_3⟩ := hk_3
  have e_3 := e_3.symm
  subst e_3
  refine j_if_eq C (tgt := 17) dX5_uneven_6 (by decide) (by first | omega | (refine ⟨?_, ?_⟩ <;> omega) | exact hw _ _ | exact nrm_R _) (fun c_6 => ?_) (fun c_6 => ?_)
  · refine j_bipush C dX5_uneven_17 (by decide +kernel) ?_
    refine j_iretI C dX5_uneven_19 (by intro h; cases h) (fun hw9 => ?_)
    refine ⟨rfl, ?_⟩
    unfold rUneven
    first
    | (rw [if_pos (show 0 ≤ k ∧ k ≤ 1 by omega)]; done)
    | (rw [if_neg (show ¬ (0 ≤ k ∧ k ≤ 1) by omega)]; done)
  · refine j_aload_n C dX5_uneven_9 rfl ?_
    refine j_iload_n C dX5_uneven_10 rfl ?_
    refine j_callVi1 C vX5_uneven_116 rfl rfl (Nat.le_of_ble_eq_true rfl) ⟨Nat.zero_le _, Nat.zero_le _⟩ dX5_uneven_11 (ct_X5_unevenOf ⟨hL, by omega⟩) (fun x_11 g_11 hk_11 => ?_)
    obtain ⟨e_11, rfl⟩ := hk_11
    have e_11 := e_11.symm
    subst e_11
    refine j_goto C (tgt := 19) dX5_uneven_14 (by decide) ?_
    refine j_iretI C dX5_uneven_19 (by intro h; cases h) (fun hw9 => ?_)
    refine ⟨rfl, ?_⟩
    unfold rUneven
    first
    | (rw [if_pos (show 0 ≤ k ∧ k ≤ 1 by omega)]; done)
    | (rw [if_neg (show ¬ (0 ≤ k ∧ k ≤ 1) by omega)]; done)
def modK (g : AG) (w v b : Int) : AG := aset (aset (aset (aset g 30 (g 21 14).toNat w) 31 (g 21 14).toNat v) 32 (g 21 14).toNat b) 21 14 (g 21 14 + 1)
set_option maxHeartbeats 4000000 in
set_option maxRecDepth 100000 in
theorem ct_X5_kind {w v b : Int} {g : AG} (h : aR w ∧ aR v ∧ aR b ∧ 0 ≤ g 21 14 ∧ g 21 14 ≤ 4) : MetI yX5_kind wsX5_kind rmX5_kind ShW [.inr 21, .inl w, .inl v, .inl b] g (fun x g' => x = rKind (g 21 14) w v b ∧ g' = (if 0 ≤ x then modK g w v b else g)) := by
  refine metI_of (cc := cX5_kind) (nL := 4) false (by decide +kernel) rfl (Nat.le_of_ble_eq_true rfl) (fun q J C => ?_)
  show J q ShW 0 0 0 [some (.inr 21), some (.inl w), some (.inl v), some (.inl b)] [] g
  refine j_wf C (fun hw => ?_)
  obtain ⟨h1, h2, h3, h4, h5⟩ := h
  refine j_iload_n C dX5_kind_0 rfl ?_
  refine j_iconst C dX5_kind_1 ?_
  refine j_bipush C dX5_kind_2 (by decide +kernel) ?_
  refine j_callSi3 C vX5_kind_75 rfl (Nat.le_of_ble_eq_true rfl) ⟨Nat.zero_le _, Nat.zero_le _⟩ dX5_kind_4 (ct_X5_in ⟨h1, ⟨by omega, by omega⟩, ⟨by omega, by omega⟩⟩) (fun x_4 g_4 hk_4 => ?_)
  obtain ⟨e_4, hb_4, hi_4⟩ := hk_4
  have e_4 := e_4.symm
  subst e_4
  refine j_if_eq C (tgt := 32) dX5_kind_7 (by decide) (by first | omega | (refine ⟨?_, ?_⟩ <;> omega) | exact hw _ _ | exact nrm_R _) (fun c_7 => ?_) (fun c_7 => ?_)
  · refine j_bipush C dX5_kind_32 (by decide +kernel) ?_
    refine j_iretI C dX5_kind_34 (by intro h; cases h) (fun hw9 => ?_)
    unfold rKind
    rw [if_neg (by omega)]
    exact ⟨rfl, by rw [if_neg (by decide)]⟩
  · refine j_iload_n C dX5_kind_10 rfl ?_
    refine j_iconst C dX5_kind_11 ?_
    refine j_sipush C dX5_kind_12 (by decide +kernel) ?_
    refine j_callSi3 C vX5_kind_75 rfl (Nat.le_of_ble_eq_true rfl) ⟨Nat.zero_le _, Nat.zero_le _⟩ dX5_kind_15 (ct_X5_in ⟨h2, ⟨by omega, by omega⟩, ⟨by omega, by omega⟩⟩) (fun x_15 g_15 hk_15 => ?_)
    obtain ⟨e_15, hb_15, hi_15⟩ := hk_15
    have e_15 := e_15.symm
    subst e_15
    refine j_if_eq C (tgt := 32) dX5_kind_18 (by decide) (by first | omega | (refine ⟨?_, ?_⟩ <;> omega) | exact hw _ _ | exact nrm_R _) (fun c_18 => ?_) (fun c_18 => ?_)
    · refine j_bipush C dX5_kind_32 (by decide +kernel) ?_
      refine j_iretI C dX5_kind_34 (by intro h; cases h) (fun hw9 => ?_)
      unfold rKind
      rw [if_neg (by omega)]
      exact ⟨rfl, by rw [if_neg (by decide)]⟩
    · refine j_iload_n C dX5_kind_21 rfl ?_
      refine j_iconst C dX5_kind_22 ?_
      refine j_sipush C dX5_kind_23 (by decide +kernel) ?_
      refine j_callSi3 C vX5_kind_75 rfl (Nat.le_of_ble_eq_true rfl) ⟨Nat.zero_le _, Nat.zero_le _⟩ dX5_kind_26 (ct_X5_in ⟨h3, ⟨by omega, by omega⟩, ⟨by omega, by omega⟩⟩) (fun x_26 g_26 hk_26 => ?_)
      obtain ⟨e_26, hb_26, hi_26⟩ := hk_26
      have e_26 := e_26.symm
      subst e_26
      refine j_if_ne C (tgt := 35) dX5_kind_29 (by decide) (by first | omega | (refine ⟨?_, ?_⟩ <;> omega) | exact hw _ _ | exact nrm_R _) (fun c_29 => ?_) (fun c_29 => ?_)
      · refine j_aload_n C dX5_kind_35 rfl ?_
        refine j_getI C fX5_kind_82 rfl rfl dX5_kind_36 ?_
        refine j_iconst C dX5_kind_39 ?_
        refine j_icmp_ne C (tgt := 46) dX5_kind_40 (by decide) (by first | omega | (refine ⟨?_, ?_⟩ <;> omega) | exact hw _ _ | exact nrm_R _) (by first | omega | (refine ⟨?_, ?_⟩ <;> omega) | exact hw _ _ | exact nrm_R _) (fun c_40 => ?_) (fun c_40 => ?_)
        · refine j_aload_n C dX5_kind_46 rfl ?_
          refine j_getR C fX5_kind_48 rfl rfl dX5_kind_47 ?_
          refine j_aload_n C dX5_kind_50 rfl ?_
          refine j_getI C fX5_kind_82 rfl rfl dX5_kind_51 ?_
          refine j_iload_n C dX5_kind_54 rfl ?_
          refine j_iastore C rfl (by decide) dX5_kind_55 (by first | omega | (refine ⟨?_, ?_⟩ <;> omega) | exact hw _ _ | exact nrm_R _) (by first | omega | (refine ⟨?_, ?_⟩ <;> omega) | exact hw _ _ | exact nrm_R _) (by first | omega | (refine ⟨?_, ?_⟩ <;> omega) | exact hw _ _ | exact nrm_R _) ?_
          refine j_aload_n C dX5_kind_56 rfl ?_
          refine j_getR C fX5_kind_51 rfl rfl dX5_kind_57 ?_
          refine j_aload_n C dX5_kind_60 rfl ?_
          refine j_getI C fX5_kind_82 rfl rfl dX5_kind_61 ?_
          simp only [aset_kn _ _ _ (show (21 : Nat) ≠ 30 by decide), aset_kn _ _ _ (show (21 : Nat) ≠ 31 by decide), aset_kn _ _ _ (show (21 : Nat) ≠ 32 by decide)]
          refine j_iload_n C dX5_kind_64 rfl ?_
          refine j_iastore C rfl (by decide) dX5_kind_65 (by first | omega | (refine ⟨?_, ?_⟩ <;> omega) | exact hw _ _ | exact nrm_R _) (by first | omega | (refine ⟨?_, ?_⟩ <;> omega) | exact hw _ _ | exact nrm_R _) (by first | omega | (refine ⟨?_, ?_⟩ <;> omega) | exact hw _ _ | exact nrm_R _) ?_
          refine j_aload_n C dX5_kind_66 rfl ?_
          refine j_getR C fX5_kind_54 rfl rfl dX5_kind_67 ?_
          refine j_aload_n C dX5_kind_70 rfl ?_
          refine j_getI C fX5_kind_82 rfl rfl dX5_kind_71 ?_
          simp only [aset_kn _ _ _ (show (21 : Nat) ≠ 30 by decide), aset_kn _ _ _ (show (21 : Nat) ≠ 31 by decide), aset_kn _ _ _ (show (21 : Nat) ≠ 32 by decide)]
          refine j_iload_n C dX5_kind_74 rfl ?_
          refine j_iastore C rfl (by decide) dX5_kind_75 (by first | omega | (refine ⟨?_, ?_⟩ <;> omega) | exact hw _ _ | exact nrm_R _) (by first | omega | (refine ⟨?_, ?_⟩ <;> omega) | exact hw _ _ | exact nrm_R _) (by first | omega | (refine ⟨?_, ?_⟩ <;> omega) | exact hw _ _ | exact nrm_R _) ?_
          refine j_aload_n C dX5_kind_76 rfl ?_
          refine j_dup C dX5_kind_77 ?_
          refine j_getI C fX5_kind_82 rfl rfl dX5_kind_78 ?_
          simp only [aset_kn _ _ _ (show (21 : Nat) ≠ 30 by decide), aset_kn _ _ _ (show (21 : Nat) ≠ 31 by decide), aset_kn _ _ _ (show (21 : Nat) ≠ 32 by decide)]
          refine j_iconst C dX5_kind_81 ?_
          refine j_iadd C dX5_kind_82 ?_
          refine j_putI C pX5_kind_82 rfl rfl (by first | omega | (refine ⟨?_, ?_⟩ <;> omega) | exact hw _ _ | exact nrm_R _) (by intro h; cases h) dX5_kind_83 ?_
          refine j_aload_n C dX5_kind_86 rfl ?_
          refine j_getI C fX5_kind_82 rfl rfl dX5_kind_87 ?_
          refine j_iconst C dX5_kind_90 ?_
          refine j_isub C dX5_kind_91 ?_
          refine j_iretI C dX5_kind_92 (by intro h; cases h) (fun hw9 => ?_)
          unfold rKind
          rw [if_pos (by omega), if_neg (by omega), aset_s]
          refine ⟨by omega, ?_⟩
          rw [if_pos (by omega)]
          rfl
        · refine j_bipush C dX5_kind_43 (by decide +kernel) ?_
          refine j_iretI C dX5_kind_45 (by intro h; cases h) (fun hw9 => ?_)
          unfold rKind
          rw [if_pos (by omega), if_pos (by omega)]
          exact ⟨rfl, by rw [if_neg (by decide)]⟩
      · refine j_bipush C dX5_kind_32 (by decide +kernel) ?_
        refine j_iretI C dX5_kind_34 (by intro h; cases h) (fun hw9 => ?_)
        unfold rKind
        rw [if_neg (by omega)]
        exact ⟨rfl, by rw [if_neg (by decide)]⟩
set_option maxHeartbeats 4000000 in
set_option maxRecDepth 100000 in
theorem ct_X5_lies {k p : Int} {g : AG} (h : LM g ∧ KM g ∧ 0 ≤ k ∧ k < 4 ∧ 0 ≤ p ∧ p < 24) : MetI yX5_lies wsX5_lies rmX5_lies ShW [.inr 21, .inl k, .inl p] g (fun x g' => g' = g ∧ (x = 0 ∨ x = 1) ∧ (x = 1 ↔ lieP (g 30 k.toNat) (g 32 k.toNat) (g 21 0) (szM g) p)) := by
  refine metI_of (cc := cX5_lies) (nL := 5) true (by decide +kernel) rfl (Nat.le_of_ble_eq_true rfl) (fun q J C => ?_)
  show J q ShW 0 0 0 [some (.inr 21), some (.inl k), some (.inl p), none, none] [] g
  refine j_wf C (fun hw => ?_)
  obtain ⟨hL, hK, h1, h2, h3, h4⟩ := h
  have hn := hL.1
  have hW := hK.2.1 k.toNat
  have hB := hK.2.2.2.1 k.toNat
  have lp : ∀ n : Nat, ∀ (i f : Int), (p + g 30 k.toNat - i).toNat = n → p ≤ i → i ≤ p + g 30 k.toNat → (f = 0 ∨ f = 1) → (f = 1 ↔ p + g 30 k.toNat ≤ g 21 0 ∧ ∀ j, p ≤ j → j < i → szM g j ≤ g 32 k.toNat) → J q ShW 0 0 24 [some (.inr 21), some (.inl k), some (.inl p), some (.inl f), some (.inl i)] [] g := by
    refine byN _ (fun n ih i f hn2 h0 h9 hf1 hf2 => ?_)
    have hE := eP_b hL i
    have hz : szM g i = ((eP (g 28) (g 29) (g 21 12) (g 21 13) (g 21 0) i).natAbs : Int) := rfl
    refine j_iload C dX5_lies_24 rfl ?_
    refine j_iload_n C dX5_lies_26 rfl ?_
    refine j_aload_n C dX5_lies_27 rfl ?_
    refine j_getR C fX5_lies_48 rfl rfl dX5_lies_28 ?_
    refine j_iload_n C dX5_lies_31 rfl ?_
    refine j_iaload C rfl (by decide) dX5_lies_32 (by first | omega | (refine ⟨?_, ?_⟩ <;> omega) | exact hw _ _ | exact nrm_R _) (by first | omega | (refine ⟨?_, ?_⟩ <;> omega) | exact hw _ _ | exact nrm_R _) ?_
    refine j_iadd C dX5_lies_33 ?_
    refine j_icmp_ge C (tgt := 71) dX5_lies_34 (by decide) (by first | omega | (refine ⟨?_, ?_⟩ <;> omega) | exact hw _ _ | exact nrm_R _) (by first | omega | (refine ⟨?_, ?_⟩ <;> omega) | exact hw _ _ | exact nrm_R _) (fun c_34 => ?_) (fun c_34 => ?_)
    · refine j_iload_n C dX5_lies_71 rfl ?_
      refine j_iretI C dX5_lies_72 (fun _ => by first | exact Or.inl rfl | exact Or.inr rfl | assumption | omega) (fun hw9 => ?_)
      refine ⟨rfl, hf1, ?_⟩
      unfold lieP
      first
      | (have e3 : i = p + g 30 k.toNat := by omega
         rw [← e3] at hf2 ⊢
         exact hf2)
      | (refine ⟨fun z => by omega, fun z => ?_⟩
         exact hf2.mpr ⟨z.1, fun j q1 q2 => z.2 j q1 (by omega)⟩)
    · refine j_iload_n C dX5_lies_37 rfl ?_
      refine j_if_eq C (tgt := 71) dX5_lies_38 (by decide) (by first | omega | (refine ⟨?_, ?_⟩ <;> omega) | exact hw _ _ | exact nrm_R _) (fun c_38 => ?_) (fun c_38 => ?_)
      · refine j_iload_n C dX5_lies_71 rfl ?_
        refine j_iretI C dX5_lies_72 (fun _ => by first | exact Or.inl rfl | exact Or.inr rfl | assumption | omega) (fun hw9 => ?_)
        refine ⟨rfl, hf1, ?_⟩
        unfold lieP
        first
        | (have e3 : i = p + g 30 k.toNat := by omega
           rw [← e3] at hf2 ⊢
           exact hf2)
        | (refine ⟨fun z => by omega, fun z => ?_⟩
           exact hf2.mpr ⟨z.1, fun j q1 q2 => z.2 j q1 (by omega)⟩)
      · refine j_aload_n C dX5_lies_41 rfl ?_
        refine j_iload C dX5_lies_42 rfl ?_
        refine j_callVi1 C vX5_lies_109 rfl rfl (Nat.le_of_ble_eq_true rfl) ⟨Nat.zero_le _, Nat.zero_le _⟩ dX5_lies_44 (ct_X5_error ⟨hL, by omega, by have := hf2.mp (by omega); omega⟩) (fun x_44 g_44 hk_44 => ?_)
        obtain ⟨e_44, rfl⟩ := hk_44
        have e_44 := e_44.symm
        subst e_44
        refine j_callSi1 C vX5_lies_99 rfl (Nat.le_of_ble_eq_true rfl) ⟨Nat.zero_le _, Nat.zero_le _⟩ dX5_lies_47 (ct_X5_size ⟨by omega, by omega⟩) (fun x_47 g_47 hk_47 => ?_)
        obtain ⟨e_47, rfl⟩ := hk_47
        have e_47 := e_47.symm
        subst e_47
        refine j_aload_n C dX5_lies_50 rfl ?_
        refine j_getR C fX5_lies_54 rfl rfl dX5_lies_51 ?_
        refine j_iload_n C dX5_lies_54 rfl ?_
        refine j_iaload C rfl (by decide) dX5_lies_55 (by first | omega | (refine ⟨?_, ?_⟩ <;> omega) | exact hw _ _ | exact nrm_R _) (by first | omega | (refine ⟨?_, ?_⟩ <;> omega) | exact hw _ _ | exact nrm_R _) ?_
        refine j_icmp_gt C (tgt := 63) dX5_lies_56 (by decide) (by first | omega | (refine ⟨?_, ?_⟩ <;> omega) | exact hw _ _ | exact nrm_R _) (by first | omega | (refine ⟨?_, ?_⟩ <;> omega) | exact hw _ _ | exact nrm_R _) (fun c_56 => ?_) (fun c_56 => ?_)
        · refine j_iconst C dX5_lies_63 ?_
          refine j_istore_n C dX5_lies_64 (Nat.le_of_ble_eq_true rfl) ?_
          dsimp only [List.set]
          refine j_iinc C dX5_lies_65 rfl ?_
          dsimp only [List.set]
          refine j_goto C (tgt := 24) dX5_lies_68 (by decide) ?_
          refine ih _ (by omega) (i + 1) _ rfl (by omega) (by omega) (by omega) ?_
          have q0 := hf2.mp (by omega)
          first
          | exact ⟨fun h => absurd h (by decide), fun h => by have := h.2 i (by omega) (by omega); omega⟩
          | (refine ⟨fun _ => ⟨q0.1, fun j q1 q2 => ?_⟩, fun _ => rfl⟩
             by_cases e3 : j = i
             · subst e3
               omega
             · exact q0.2 j q1 (by omega))
        · refine j_iconst C dX5_lies_59 ?_
          refine j_goto C (tgt := 64) dX5_lies_60 (by decide) ?_
          refine j_istore_n C dX5_lies_64 (Nat.le_of_ble_eq_true rfl) ?_
          dsimp only [List.set]
          refine j_iinc C dX5_lies_65 rfl ?_
          dsimp only [List.set]
          refine j_goto C (tgt := 24) dX5_lies_68 (by decide) ?_
          refine ih _ (by omega) (i + 1) _ rfl (by omega) (by omega) (by omega) ?_
          have q0 := hf2.mp (by omega)
          first
          | exact ⟨fun h => absurd h (by decide), fun h => by have := h.2 i (by omega) (by omega); omega⟩
          | (refine ⟨fun _ => ⟨q0.1, fun j q1 q2 => ?_⟩, fun _ => rfl⟩
             by_cases e3 : j = i
             · subst e3
               omega
             · exact q0.2 j q1 (by omega))
  refine j_iload_n C dX5_lies_0 rfl ?_
  refine j_aload_n C dX5_lies_1 rfl ?_
  refine j_getR C fX5_lies_48 rfl rfl dX5_lies_2 ?_
  refine j_iload_n C dX5_lies_5 rfl ?_
  refine j_iaload C rfl (by decide) dX5_lies_6 (by first | omega | (refine ⟨?_, ?_⟩ <;> omega) | exact hw _ _ | exact nrm_R _) (by first | omega | (refine ⟨?_, ?_⟩ <;> omega) | exact hw _ _ | exact nrm_R _) ?_
  refine j_iadd C dX5_lies_7 ?_
  refine j_aload_n C dX5_lies_8 rfl ?_
  refine j_getI C fX5_lies_7 rfl rfl dX5_lies_9 ?_
  refine j_icmp_gt C (tgt := 19) dX5_lies_12 (by decide) (by first | omega | (refine ⟨?_, ?_⟩ <;> omega) | exact hw _ _ | exact nrm_R _) (by first | omega | (refine ⟨?_, ?_⟩ <;> omega) | exact hw _ _ | exact nrm_R _) (fun c_12 => ?_) (fun c_12 => ?_)
  · refine j_iconst C dX5_lies_19 ?_
    refine j_istore_n C dX5_lies_20 (Nat.le_of_ble_eq_true rfl) ?_
    dsimp only [List.set]
    refine j_iload_n C dX5_lies_21 rfl ?_
    refine j_istore C dX5_lies_22 (Nat.le_of_ble_eq_true rfl) ?_
    dsimp only [List.set]
    refine lp _ p _ rfl (by omega) (by omega) (by omega) ?_
    first
    | exact ⟨fun h => absurd h (by decide), fun h => by omega⟩
    | exact ⟨fun _ => ⟨by omega, fun j q1 q2 => by omega⟩, fun _ => rfl⟩
  · refine j_iconst C dX5_lies_15 ?_
    refine j_goto C (tgt := 20) dX5_lies_16 (by decide) ?_
    refine j_istore_n C dX5_lies_20 (Nat.le_of_ble_eq_true rfl) ?_
    dsimp only [List.set]
    refine j_iload_n C dX5_lies_21 rfl ?_
    refine j_istore C dX5_lies_22 (Nat.le_of_ble_eq_true rfl) ?_
    dsimp only [List.set]
    refine lp _ p _ rfl (by omega) (by omega) (by omega) ?_
    first
    | exact ⟨fun h => absurd h (by decide), fun h => by omega⟩
    | exact ⟨fun _ => ⟨by omega, fun j q1 q2 => by omega⟩, fun _ => rfl⟩
set_option maxHeartbeats 4000000 in
set_option maxRecDepth 100000 in
theorem ct_X5_canLie {k p : Int} {g : AG} (h : LM g ∧ KM g ∧ aR k ∧ aR p) : MetI yX5_canLie wsX5_canLie rmX5_canLie ShW [.inr 21, .inl k, .inl p] g (fun x g' => g' = g ∧ x = rLie (g 21 14) (g 21 0) k p (lieP (g 30 k.toNat) (g 32 k.toNat) (g 21 0) (szM g) p)) := by
  refine metI_of (cc := cX5_canLie) (nL := 3) false (by decide +kernel) rfl (Nat.le_of_ble_eq_true rfl) (fun q J C => ?_)
  show J q ShW 0 0 0 [some (.inr 21), some (.inl k), some (.inl p)] [] g
  refine j_wf C (fun hw => ?_)
  obtain ⟨hL, hK, h1, h2⟩ := h
  have hn := hL.1
  have hk := hK.1
  refine j_iload_n C dX5_canLie_0 rfl ?_
  refine j_iconst C dX5_canLie_1 ?_
  refine j_aload_n C dX5_canLie_2 rfl ?_
  refine j_getI C fX5_canLie_82 rfl rfl dX5_canLie_3 ?_
  refine j_iconst C dX5_canLie_6 ?_
  refine j_isub C dX5_canLie_7 ?_
  refine j_callSi3 C vX5_canLie_75 rfl (Nat.le_of_ble_eq_true rfl) ⟨Nat.zero_le _, Nat.zero_le _⟩ dX5_canLie_8 (ct_X5_in ⟨h1, ⟨by omega, by omega⟩, ⟨by omega, by omega⟩⟩) (fun x_8 g_8 hk_8 => ?_)
  obtain ⟨e_8, hb_8, hi_8⟩ := hk_8
  have e_8 := e_8.symm
  subst e_8
  refine j_if_eq C (tgt := 39) dX5_canLie_11 (by decide) (by first | omega | (refine ⟨?_, ?_⟩ <;> omega) | exact hw _ _ | exact nrm_R _) (fun c_11 => ?_) (fun c_11 => ?_)
  · refine j_iconst C dX5_canLie_39 ?_
    refine j_iretI C dX5_canLie_40 (by intro h; cases h) (fun hw9 => ?_)
    refine ⟨rfl, ?_⟩
    unfold rLie
    first
    | (rw [if_neg (by omega)]; done)
    | (rw [if_pos (by omega), cif_t (hi_25.mp (by omega))]; done)
    | (rw [if_pos (by omega), cif_f (fun h => by have := hi_25.mpr h; omega)]; done)
  · refine j_aload_n C dX5_canLie_14 rfl ?_
    refine j_iload_n C dX5_canLie_15 rfl ?_
    refine j_callVi1 C vX5_canLie_85 rfl rfl (Nat.le_of_ble_eq_true rfl) ⟨Nat.zero_le _, Nat.zero_le _⟩ dX5_canLie_16 (ct_X5_isPlace ⟨h2, by omega, by omega⟩) (fun x_16 g_16 hk_16 => ?_)
    obtain ⟨e_16, hb_16, hi_16⟩ := hk_16
    have e_16 := e_16.symm
    subst e_16
    refine j_if_eq C (tgt := 39) dX5_canLie_19 (by decide) (by first | omega | (refine ⟨?_, ?_⟩ <;> omega) | exact hw _ _ | exact nrm_R _) (fun c_19 => ?_) (fun c_19 => ?_)
    · refine j_iconst C dX5_canLie_39 ?_
      refine j_iretI C dX5_canLie_40 (by intro h; cases h) (fun hw9 => ?_)
      refine ⟨rfl, ?_⟩
      unfold rLie
      first
      | (rw [if_neg (by omega)]; done)
      | (rw [if_pos (by omega), cif_t (hi_25.mp (by omega))]; done)
      | (rw [if_pos (by omega), cif_f (fun h => by have := hi_25.mpr h; omega)]; done)
    · refine j_aload_n C dX5_canLie_22 rfl ?_
      refine j_iload_n C dX5_canLie_23 rfl ?_
      refine j_iload_n C dX5_canLie_24 rfl ?_
      refine j_callVi2 C vX5_canLie_127 rfl rfl (Nat.le_of_ble_eq_true rfl) ⟨Nat.zero_le _, Nat.zero_le _⟩ dX5_canLie_25 (ct_X5_lies ⟨hL, hK, by omega, by omega, by omega, by omega⟩) (fun x_25 g_25 hk_25 => ?_)
      obtain ⟨e_25, hb_25, hi_25⟩ := hk_25
      have e_25 := e_25.symm
      subst e_25
      refine j_if_eq C (tgt := 35) dX5_canLie_28 (by decide) (by first | omega | (refine ⟨?_, ?_⟩ <;> omega) | exact hw _ _ | exact nrm_R _) (fun c_28 => ?_) (fun c_28 => ?_)
      · refine j_iconst C dX5_canLie_35 ?_
        refine j_goto C (tgt := 40) dX5_canLie_36 (by decide) ?_
        refine j_iretI C dX5_canLie_40 (by intro h; cases h) (fun hw9 => ?_)
        refine ⟨rfl, ?_⟩
        unfold rLie
        first
        | (rw [if_neg (by omega)]; done)
        | (rw [if_pos (by omega), cif_t (hi_25.mp (by omega))]; done)
        | (rw [if_pos (by omega), cif_f (fun h => by have := hi_25.mpr h; omega)]; done)
      · refine j_iconst C dX5_canLie_31 ?_
        refine j_goto C (tgt := 40) dX5_canLie_32 (by decide) ?_
        refine j_iretI C dX5_canLie_40 (by intro h; cases h) (fun hw9 => ?_)
        refine ⟨rfl, ?_⟩
        unfold rLie
        first
        | (rw [if_neg (by omega)]; done)
        | (rw [if_pos (by omega), cif_t (hi_25.mp (by omega))]; done)
        | (rw [if_pos (by omega), cif_f (fun h => by have := hi_25.mpr h; omega)]; done)
set_option maxHeartbeats 4000000 in
set_option maxRecDepth 100000 in
theorem ct_X5_fitting {g : AG} (h : 0 ≤ g 21 1 ∧ g 21 1 ≤ 100 ∧ ∀ j, g 25 j = 0 ∨ g 25 j = 1) : MetI yX5_fitting wsX5_fitting rmX5_fitting ShW [.inr 21] g (fun x g' => g' = g ∧ x = cntB (g 25) (g 21 1).toNat) := by
  refine metI_of (cc := cX5_fitting) (nL := 3) false (by decide +kernel) rfl (Nat.le_of_ble_eq_true rfl) (fun q J C => ?_)
  show J q ShW 0 0 0 [some (.inr 21), none, none] [] g
  refine j_wf C (fun hw => ?_)
  obtain ⟨h1, h2, h3⟩ := h
  have lp : ∀ n : Nat, ∀ (i : Int), (g 21 1 - i).toNat = n → 0 ≤ i → i ≤ g 21 1 → J q ShW 0 0 4 [some (.inr 21), some (.inl (cntB (g 25) i.toNat)), some (.inl i)] [] g := by
    refine byN _ (fun n ih i hn2 h0 h9 => ?_)
    have hc := cntB_b (g 25) i.toNat
    have h5 := h3 i.toNat
    refine j_iload_n C dX5_fitting_4 rfl ?_
    refine j_aload_n C dX5_fitting_5 rfl ?_
    refine j_getI C fX5_fitting_79 rfl rfl dX5_fitting_6 ?_
    refine j_icmp_ge C (tgt := 35) dX5_fitting_9 (by decide) (by first | omega | (refine ⟨?_, ?_⟩ <;> omega) | exact hw _ _ | exact nrm_R _) (by first | omega | (refine ⟨?_, ?_⟩ <;> omega) | exact hw _ _ | exact nrm_R _) (fun c_9 => ?_) (fun c_9 => ?_)
    · refine j_iload_n C dX5_fitting_35 rfl ?_
      refine j_iretI C dX5_fitting_36 (by intro h; cases h) (fun hw9 => ?_)
      exact ⟨rfl, by rw [show i.toNat = (g 21 1).toNat by omega]⟩
    · refine j_iload_n C dX5_fitting_12 rfl ?_
      refine j_aload_n C dX5_fitting_13 rfl ?_
      refine j_getR C fX5_fitting_23 rfl rfl dX5_fitting_14 ?_
      refine j_iload_n C dX5_fitting_17 rfl ?_
      refine j_baload C rfl (by decide) dX5_fitting_18 (by first | omega | (refine ⟨?_, ?_⟩ <;> omega) | exact hw _ _ | exact nrm_R _) (by first | omega | (refine ⟨?_, ?_⟩ <;> omega) | exact hw _ _ | exact nrm_R _) ?_
      refine j_if_eq C (tgt := 26) dX5_fitting_19 (by decide) (by first | omega | (refine ⟨?_, ?_⟩ <;> omega) | exact hw _ _ | exact nrm_R _) (fun c_19 => ?_) (fun c_19 => ?_)
      · refine j_iconst C dX5_fitting_26 ?_
        refine j_iadd C dX5_fitting_27 ?_
        refine j_istore_n C dX5_fitting_28 (Nat.le_of_ble_eq_true rfl) ?_
        dsimp only [List.set]
        refine j_iinc C dX5_fitting_29 rfl ?_
        dsimp only [List.set]
        refine j_goto C (tgt := 4) dX5_fitting_32 (by decide) ?_
        refine j_cast (ih _ (by omega) (i + 1) rfl (by omega) (by omega)) ?_ rfl rfl
        rw [show (i + 1).toNat = i.toNat + 1 by omega, cntB]
        first
        | rw [if_pos c_19]
        | rw [if_neg c_19]
      · refine j_iconst C dX5_fitting_22 ?_
        refine j_goto C (tgt := 27) dX5_fitting_23 (by decide) ?_
        refine j_iadd C dX5_fitting_27 ?_
        refine j_istore_n C dX5_fitting_28 (Nat.le_of_ble_eq_true rfl) ?_
        dsimp only [List.set]
        refine j_iinc C dX5_fitting_29 rfl ?_
        dsimp only [List.set]
        refine j_goto C (tgt := 4) dX5_fitting_32 (by decide) ?_
        refine j_cast (ih _ (by omega) (i + 1) rfl (by omega) (by omega)) ?_ rfl rfl
        rw [show (i + 1).toNat = i.toNat + 1 by omega, cntB]
        first
        | rw [if_pos c_19]
        | rw [if_neg c_19]
  refine j_iconst C dX5_fitting_0 ?_
  refine j_istore_n C dX5_fitting_1 (Nat.le_of_ble_eq_true rfl) ?_
  dsimp only [List.set]
  refine j_iconst C dX5_fitting_2 ?_
  refine j_istore_n C dX5_fitting_3 (Nat.le_of_ble_eq_true rfl) ?_
  dsimp only [List.set]
  exact lp _ 0 rfl (by omega) (by omega)
set_option maxHeartbeats 4000000 in
set_option maxRecDepth 100000 in
theorem ct_X5_told {w : Int} {g : AG} (h : aR w ∧ 0 ≤ g 21 1 ∧ g 21 1 ≤ 100 ∧ ∀ j, g 25 j = 0 ∨ g 25 j = 1) : MetI yX5_told wsX5_told rmX5_told ShW [.inr 21, .inl w] g (fun x g' => g' = g ∧ x = rTold (g 21 0) (g 21 1) (cntB (g 25) (g 21 1).toNat) (g 21 14) (g 21 18) (g 21 10) (g 21 11) (g 21 12) (g 21 13) w) := by
  refine metI_of (cc := cX5_told) (nL := 2) false (by decide +kernel) rfl (Nat.le_of_ble_eq_true rfl) (fun q J C => ?_)
  show J q ShW 0 0 0 [some (.inr 21), some (.inl w)] [] g
  refine j_wf C (fun hw => ?_)
  refine j_iload_n C dX5_told_0 rfl ?_
  refine j_tsw9 C (td := 97) (t0 := 52) (t1 := 57) (t2 := 62) (t3 := 67) (t4 := 72) (t5 := 77) (t6 := 82) (t7 := 87) (t8 := 92) dX5_told_1 (by decide) ⟨by decide, by decide, by decide, by decide, by decide, by decide, by decide, by decide, by decide⟩ (by exact h.1) (fun c_1 => ?_) (fun c_1 => ?_) (fun c_1 => ?_) (fun c_1 => ?_) (fun c_1 => ?_) (fun c_1 => ?_) (fun c_1 => ?_) (fun c_1 => ?_) (fun c_1 => ?_) (fun c_1 => ?_)
  · refine j_aload_n C dX5_told_52 rfl ?_
    refine j_getI C fX5_told_7 rfl rfl dX5_told_53 ?_
    refine j_iretI C dX5_told_56 (by intro h; cases h) (fun hw9 => ?_)
    refine ⟨rfl, ?_⟩
    unfold rTold
    simp only [c_1]
    all_goals first | rfl | (simp; done)
  · refine j_aload_n C dX5_told_57 rfl ?_
    refine j_getI C fX5_told_79 rfl rfl dX5_told_58 ?_
    refine j_iretI C dX5_told_61 (by intro h; cases h) (fun hw9 => ?_)
    refine ⟨rfl, ?_⟩
    unfold rTold
    simp only [c_1]
    all_goals first | rfl | (simp; done)
  · refine j_aload_n C dX5_told_62 rfl ?_
    refine j_callVi0 C vX5_told_142 rfl rfl (Nat.le_of_ble_eq_true rfl) ⟨Nat.zero_le _, Nat.zero_le _⟩ dX5_told_63 (ct_X5_fitting h.2) (fun x_63 g_63 hk_63 => ?_)
    obtain ⟨e_63, rfl⟩ := hk_63
    have e_63 := e_63.symm
    subst e_63
    refine j_iretI C dX5_told_66 (by intro h; cases h) (fun hw9 => ?_)
    refine ⟨rfl, ?_⟩
    unfold rTold
    simp only [c_1]
    all_goals first | rfl | (simp; done)
  · refine j_aload_n C dX5_told_67 rfl ?_
    refine j_getI C fX5_told_82 rfl rfl dX5_told_68 ?_
    refine j_iretI C dX5_told_71 (by intro h; cases h) (fun hw9 => ?_)
    refine ⟨rfl, ?_⟩
    unfold rTold
    simp only [c_1]
    all_goals first | rfl | (simp; done)
  · refine j_aload_n C dX5_told_72 rfl ?_
    refine j_getI C fX5_told_133 rfl rfl dX5_told_73 ?_
    refine j_iretI C dX5_told_76 (by intro h; cases h) (fun hw9 => ?_)
    refine ⟨rfl, ?_⟩
    unfold rTold
    simp only [c_1]
    all_goals first | rfl | (simp; done)
  · refine j_aload_n C dX5_told_77 rfl ?_
    refine j_getI C fX5_told_39 rfl rfl dX5_told_78 ?_
    refine j_iretI C dX5_told_81 (by intro h; cases h) (fun hw9 => ?_)
    refine ⟨rfl, ?_⟩
    unfold rTold
    simp only [c_1]
    all_goals first | rfl | (simp; done)
  · refine j_aload_n C dX5_told_82 rfl ?_
    refine j_getI C fX5_told_42 rfl rfl dX5_told_83 ?_
    refine j_iretI C dX5_told_86 (by intro h; cases h) (fun hw9 => ?_)
    refine ⟨rfl, ?_⟩
    unfold rTold
    simp only [c_1]
    all_goals first | rfl | (simp; done)
  · refine j_aload_n C dX5_told_87 rfl ?_
    refine j_getI C fX5_told_45 rfl rfl dX5_told_88 ?_
    refine j_iretI C dX5_told_91 (by intro h; cases h) (fun hw9 => ?_)
    refine ⟨rfl, ?_⟩
    unfold rTold
    simp only [c_1]
    all_goals first | rfl | (simp; done)
  · refine j_aload_n C dX5_told_92 rfl ?_
    refine j_getI C fX5_told_106 rfl rfl dX5_told_93 ?_
    refine j_iretI C dX5_told_96 (by intro h; cases h) (fun hw9 => ?_)
    refine ⟨rfl, ?_⟩
    unfold rTold
    simp only [c_1]
    all_goals first | rfl | (simp; done)
  · refine j_sipush C dX5_told_97 (by decide +kernel) ?_
    refine j_iretI C dX5_told_100 (by intro h; cases h) (fun hw9 => ?_)
    refine ⟨rfl, ?_⟩
    unfold rTold
    rw [if_neg (by omega), if_neg (by omega), if_neg (by omega), if_neg (by omega), if_neg (by omega), if_neg (by omega), if_neg (by omega), if_neg (by omega), if_neg (by omega)]
/-- the model's costs behind a new grade c -/
noncomputable def mgC (f : Nat → Int) (c n : Nat) : Nat → Int := fun j => @ite Int (∃ i, i < n ∧ (j = 9 * c + i ∨ j = 9 * i + c)) (Classical.propDecidable _) 100 (f j)
theorem mgC_0 (f : Nat → Int) (c : Nat) : mgC f c 0 = f := by funext j; unfold mgC; rw [if_neg]; rintro ⟨i, h, -⟩; omega
theorem mgC_s (f : Nat → Int) (c n : Nat) : mgC f c (n + 1) = fun j => if j = 9 * n + c then 100 else if j = 9 * c + n then 100 else mgC f c n j := by
  funext j
  by_cases h1 : j = 9 * n + c
  · rw [if_pos h1]
    exact if_pos ⟨n, by omega, Or.inr h1⟩
  · rw [if_neg h1]
    by_cases h2 : j = 9 * c + n
    · rw [if_pos h2]
      exact if_pos ⟨n, by omega, Or.inl h2⟩
    · rw [if_neg h2]
      by_cases h3 : ∃ i, i < n ∧ (j = 9 * c + i ∨ j = 9 * i + c)
      · obtain ⟨i, a, b⟩ := h3
        exact (if_pos ⟨i, by omega, b⟩).trans (if_pos ⟨i, a, b⟩).symm
      · refine (if_neg ?_).trans (if_neg h3).symm
        rintro ⟨i, a, b⟩
        by_cases e : i = n
        · subst e; rcases b with b | b
          · exact h2 b
          · exact h1 b
        · exact h3 ⟨i, by omega, b⟩
noncomputable def modG (g : AG) : AG := aset (row g 33 (mgC (g 33) (g 21 18).toNat 9)) 21 18 (g 21 18 + 1)
set_option maxHeartbeats 4000000 in
set_option maxRecDepth 100000 in
theorem ct_X5_grade {g : AG} (h : 0 ≤ g 21 18 ∧ g 21 18 ≤ 9) : MetI yX5_grade wsX5_grade rmX5_grade ShW [.inr 21] g (fun x g' => x = (if 9 ≤ g 21 18 then -4 else g 21 18) ∧ g' = (if 0 ≤ x then modG g else g)) := by
  refine metI_of (cc := cX5_grade) (nL := 2) false (by decide +kernel) rfl (Nat.le_of_ble_eq_true rfl) (fun q J C => ?_)
  show J q ShW 0 0 0 [some (.inr 21), none] [] g
  refine j_wf C (fun hw => ?_)
  obtain ⟨h1, h2⟩ := h
  have lp : g 21 18 < 9 → ∀ n : Nat, ∀ (i : Int), ((9 : Int) - i).toNat = n → 0 ≤ i → i ≤ 9 → J q ShW 0 0 14 [some (.inr 21), some (.inl i)] [] (row g 33 (mgC (g 33) (g 21 18).toNat i.toNat)) := by
    intro hlt
    refine byN _ (fun n ih i hn2 h0 h9 => ?_)
    have e0 : ∀ f, (row g 33 f) 21 18 = g 21 18 := fun f => rfl
    have e1 : ∀ (G : AG) j v, (aset G 33 j v) 21 18 = G 21 18 := fun G j v => congrFun (aset_kn G j v (by decide)) 18
    refine j_iload_n C dX5_grade_14 rfl ?_
    refine j_bipush C dX5_grade_15 (by decide +kernel) ?_
    refine j_icmp_ge C (tgt := 58) dX5_grade_17 (by decide) (by first | omega | (refine ⟨?_, ?_⟩ <;> omega) | exact hw _ _ | exact nrm_R _) (by first | omega | (refine ⟨?_, ?_⟩ <;> omega) | exact hw _ _ | exact nrm_R _) (fun c_17 => ?_) (fun c_17 => ?_)
    · refine j_aload_n C dX5_grade_58 rfl ?_
      refine j_dup C dX5_grade_59 ?_
      refine j_getI C fX5_grade_133 rfl rfl dX5_grade_60 ?_
      refine j_iconst C dX5_grade_63 ?_
      refine j_iadd C dX5_grade_64 ?_
      refine j_putI C pX5_grade_133 rfl rfl (by rw [e0]; refine ⟨?_, ?_⟩ <;> omega) (by intro h; cases h) dX5_grade_65 ?_
      refine j_aload_n C dX5_grade_68 rfl ?_
      refine j_getI C fX5_grade_133 rfl rfl dX5_grade_69 ?_
      refine j_iconst C dX5_grade_72 ?_
      refine j_isub C dX5_grade_73 ?_
      refine j_iretI C dX5_grade_74 (by intro h; cases h) (fun hw9 => ?_)
      rw [aset_s]
      rw [if_neg (by omega)]
      refine ⟨by rw [e0]; omega, ?_⟩
      rw [if_pos (by rw [e0]; omega), show i.toNat = 9 by omega]
      rfl
    · refine j_aload_n C dX5_grade_20 rfl ?_
      refine j_getR C fX5_grade_57 rfl rfl dX5_grade_21 ?_
      refine j_bipush C dX5_grade_24 (by decide +kernel) ?_
      refine j_aload_n C dX5_grade_26 rfl ?_
      refine j_getI C fX5_grade_133 rfl rfl dX5_grade_27 ?_
      rw [e0]
      refine j_imul C dX5_grade_30 ?_
      refine j_iload_n C dX5_grade_31 rfl ?_
      refine j_iadd C dX5_grade_32 ?_
      refine j_bipush C dX5_grade_33 (by decide +kernel) ?_
      refine j_iastore C rfl (by decide) dX5_grade_35 (by first | omega | (refine ⟨?_, ?_⟩ <;> omega) | exact hw _ _ | exact nrm_R _) (by first | omega | (refine ⟨?_, ?_⟩ <;> omega) | exact hw _ _ | exact nrm_R _) (by first | omega | (refine ⟨?_, ?_⟩ <;> omega) | exact hw _ _ | exact nrm_R _) ?_
      refine j_aload_n C dX5_grade_36 rfl ?_
      refine j_getR C fX5_grade_57 rfl rfl dX5_grade_37 ?_
      refine j_bipush C dX5_grade_40 (by decide +kernel) ?_
      refine j_iload_n C dX5_grade_42 rfl ?_
      refine j_imul C dX5_grade_43 ?_
      refine j_aload_n C dX5_grade_44 rfl ?_
      refine j_getI C fX5_grade_133 rfl rfl dX5_grade_45 ?_
      rw [e1, e0]
      refine j_iadd C dX5_grade_48 ?_
      refine j_bipush C dX5_grade_49 (by decide +kernel) ?_
      refine j_iastore C rfl (by decide) dX5_grade_51 (by first | omega | (refine ⟨?_, ?_⟩ <;> omega) | exact hw _ _ | exact nrm_R _) (by first | omega | (refine ⟨?_, ?_⟩ <;> omega) | exact hw _ _ | exact nrm_R _) (by first | omega | (refine ⟨?_, ?_⟩ <;> omega) | exact hw _ _ | exact nrm_R _) ?_
      refine j_iinc C dX5_grade_52 rfl ?_
      dsimp only [List.set]
      refine j_goto C (tgt := 14) dX5_grade_55 (by decide) ?_
      refine j_cast (ih _ (by omega) (i + 1) rfl (by omega) (by omega)) rfl rfl ?_
      have e5 : (9 * g 21 18 + i).toNat = 9 * (g 21 18).toNat + i.toNat := by omega
      have e6 : (9 * i + g 21 18).toNat = 9 * i.toNat + (g 21 18).toNat := by omega
      rw [show (i + 1).toNat = i.toNat + 1 by omega, mgC_s, e5, e6]
      funext k' j
      by_cases a6 : k' = 33
      · subst a6
        simp [row, aset]
      · simp [row, aset, a6]
  refine j_aload_n C dX5_grade_0 rfl ?_
  refine j_getI C fX5_grade_133 rfl rfl dX5_grade_1 ?_
  refine j_bipush C dX5_grade_4 (by decide +kernel) ?_
  refine j_icmp_ne C (tgt := 12) dX5_grade_6 (by decide) (by first | omega | (refine ⟨?_, ?_⟩ <;> omega) | exact hw _ _ | exact nrm_R _) (by first | omega | (refine ⟨?_, ?_⟩ <;> omega) | exact hw _ _ | exact nrm_R _) (fun c_6 => ?_) (fun c_6 => ?_)
  · refine j_iconst C dX5_grade_12 ?_
    refine j_istore_n C dX5_grade_13 (Nat.le_of_ble_eq_true rfl) ?_
    dsimp only [List.set]
    refine j_cast (lp (by omega) _ 0 rfl (by omega) (by omega)) rfl rfl ?_
    rw [show (0 : Int).toNat = 0 from rfl, mgC_0, row_id]
  · refine j_bipush C dX5_grade_9 (by decide +kernel) ?_
    refine j_iretI C dX5_grade_11 (by intro h; cases h) (fun hw9 => ?_)
    rw [if_pos (by omega)]
    exact ⟨rfl, by rw [if_neg (by decide)]⟩
set_option maxHeartbeats 4000000 in
set_option maxRecDepth 100000 in
theorem ct_X5_cost {a b v : Int} {g : AG} (h : aR a ∧ aR b ∧ aR v ∧ 0 ≤ g 21 18 ∧ g 21 18 ≤ 9 ∧ ∀ j, 0 ≤ g 33 j) : MetI yX5_cost wsX5_cost rmX5_cost ShW [.inr 21, .inl a, .inl b, .inl v] g (fun x g' => x = rCost (g 21 18) a b v (g 33 (9 * a + b).toNat) ∧ g' = (if 0 ≤ x then aset g 33 (9 * a + b).toNat v else g)) := by
  refine metI_of (cc := cX5_cost) (nL := 5) false (by decide +kernel) rfl (Nat.le_of_ble_eq_true rfl) (fun q J C => ?_)
  show J q ShW 0 0 0 [some (.inr 21), some (.inl a), some (.inl b), some (.inl v), none] [] g
  refine j_wf C (fun hw => ?_)
  obtain ⟨h1, h2, h3, h4, h5, h6⟩ := h
  have h7 := h6 (9 * a + b).toNat
  refine j_aload_n C dX5_cost_0 rfl ?_
  refine j_iload_n C dX5_cost_1 rfl ?_
  refine j_callVi1 C vX5_cost_136 rfl rfl (Nat.le_of_ble_eq_true rfl) ⟨Nat.zero_le _, Nat.zero_le _⟩ dX5_cost_2 (ct_X5_isGrade ⟨h1, h4, h5⟩) (fun x_2 g_2 hk_2 => ?_)
  obtain ⟨e_2, hb_2, hi_2⟩ := hk_2
  have e_2 := e_2.symm
  subst e_2
  refine j_if_eq C (tgt := 16) dX5_cost_5 (by decide) (by first | omega | (refine ⟨?_, ?_⟩ <;> omega) | exact h1 | exact h2 | exact h3) (fun c_5 => ?_) (fun c_5 => ?_)
  · refine j_iconst C dX5_cost_16 ?_
    refine j_iretI C dX5_cost_17 (by intro h; cases h) (fun hw9 => ?_)
    unfold rCost
    rw [if_neg (by omega)]
    exact ⟨rfl, by rw [if_neg (by decide)]⟩
  · refine j_aload_n C dX5_cost_8 rfl ?_
    refine j_iload_n C dX5_cost_9 rfl ?_
    refine j_callVi1 C vX5_cost_136 rfl rfl (Nat.le_of_ble_eq_true rfl) ⟨Nat.zero_le _, Nat.zero_le _⟩ dX5_cost_10 (ct_X5_isGrade ⟨h2, h4, h5⟩) (fun x_10 g_10 hk_10 => ?_)
    obtain ⟨e_10, hb_10, hi_10⟩ := hk_10
    have e_10 := e_10.symm
    subst e_10
    refine j_if_ne C (tgt := 18) dX5_cost_13 (by decide) (by first | omega | (refine ⟨?_, ?_⟩ <;> omega) | exact h1 | exact h2 | exact h3) (fun c_13 => ?_) (fun c_13 => ?_)
    · refine j_iload_n C dX5_cost_18 rfl ?_
      refine j_iconst C dX5_cost_19 ?_
      refine j_sipush C dX5_cost_20 (by decide +kernel) ?_
      refine j_callSi3 C vX5_cost_75 rfl (Nat.le_of_ble_eq_true rfl) ⟨Nat.zero_le _, Nat.zero_le _⟩ dX5_cost_23 (ct_X5_in ⟨h3, ⟨by omega, by omega⟩, ⟨by omega, by omega⟩⟩) (fun x_23 g_23 hk_23 => ?_)
      obtain ⟨e_23, hb_23, hi_23⟩ := hk_23
      have e_23 := e_23.symm
      subst e_23
      refine j_if_ne C (tgt := 32) dX5_cost_26 (by decide) (by first | omega | (refine ⟨?_, ?_⟩ <;> omega) | exact h1 | exact h2 | exact h3) (fun c_26 => ?_) (fun c_26 => ?_)
      · refine j_iload_n C dX5_cost_32 rfl ?_
        refine j_iload_n C dX5_cost_33 rfl ?_
        refine j_icmp_ne C (tgt := 40) dX5_cost_34 (by decide) (by first | omega | (refine ⟨?_, ?_⟩ <;> omega) | exact h1 | exact h2 | exact h3) (by first | omega | (refine ⟨?_, ?_⟩ <;> omega) | exact h1 | exact h2 | exact h3) (fun c_34 => ?_) (fun c_34 => ?_)
        · refine j_aload_n C dX5_cost_40 rfl ?_
          refine j_getR C fX5_cost_57 rfl rfl dX5_cost_41 ?_
          refine j_bipush C dX5_cost_44 (by decide +kernel) ?_
          refine j_iload_n C dX5_cost_46 rfl ?_
          refine j_imul C dX5_cost_47 ?_
          refine j_iload_n C dX5_cost_48 rfl ?_
          refine j_iadd C dX5_cost_49 ?_
          refine j_iaload C rfl (by decide) dX5_cost_50 (by first | omega | (refine ⟨?_, ?_⟩ <;> omega) | exact h1 | exact h2 | exact h3) (by first | omega | (refine ⟨?_, ?_⟩ <;> omega) | exact h1 | exact h2 | exact h3) ?_
          refine j_istore C dX5_cost_51 (Nat.le_of_ble_eq_true rfl) ?_
          dsimp only [List.set]
          refine j_aload_n C dX5_cost_53 rfl ?_
          refine j_getR C fX5_cost_57 rfl rfl dX5_cost_54 ?_
          refine j_bipush C dX5_cost_57 (by decide +kernel) ?_
          refine j_iload_n C dX5_cost_59 rfl ?_
          refine j_imul C dX5_cost_60 ?_
          refine j_iload_n C dX5_cost_61 rfl ?_
          refine j_iadd C dX5_cost_62 ?_
          refine j_iload_n C dX5_cost_63 rfl ?_
          refine j_iastore C rfl (by decide) dX5_cost_64 (by first | omega | (refine ⟨?_, ?_⟩ <;> omega) | exact h1 | exact h2 | exact h3) (by first | omega | (refine ⟨?_, ?_⟩ <;> omega) | exact h1 | exact h2 | exact h3) (by first | omega | (refine ⟨?_, ?_⟩ <;> omega) | exact h1 | exact h2 | exact h3) ?_
          refine j_iload C dX5_cost_65 rfl ?_
          refine j_iretI C dX5_cost_67 (by intro h; cases h) (fun hw9 => ?_)
          unfold rCost
          rw [if_pos (by omega), if_pos (by omega), if_neg (by omega)]
          exact ⟨rfl, by rw [if_pos h7]⟩
        · refine j_bipush C dX5_cost_37 (by decide +kernel) ?_
          refine j_iretI C dX5_cost_39 (by intro h; cases h) (fun hw9 => ?_)
          unfold rCost
          rw [if_pos (by omega), if_pos (by omega), if_pos (by omega)]
          exact ⟨rfl, by rw [if_neg (by decide)]⟩
      · refine j_bipush C dX5_cost_29 (by decide +kernel) ?_
        refine j_iretI C dX5_cost_31 (by intro h; cases h) (fun hw9 => ?_)
        unfold rCost
        rw [if_pos (by omega), if_neg (by omega)]
        exact ⟨rfl, by rw [if_neg (by decide)]⟩
    · refine j_iconst C dX5_cost_16 ?_
      refine j_iretI C dX5_cost_17 (by intro h; cases h) (fun hw9 => ?_)
      unfold rCost
      rw [if_neg (by omega)]
      exact ⟨rfl, by rw [if_neg (by decide)]⟩
