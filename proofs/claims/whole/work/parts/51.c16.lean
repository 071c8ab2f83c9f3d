theorem LM_row {g : AG} (h : LM g) {f S : Nat → Int} (hS : ∀ j, -10 ≤ S j ∧ S j ≤ 10) : LM (row (row g 34 f) 29 S) := by
  obtain ⟨a1, a2, a3, a4, a5, a6, a7⟩ := h
  exact ⟨a1, a2, a3, a4, a5, a6, hS⟩
theorem fillU_1 (F : Nat → Int) (y : Int) : (fun j => if j = 0 then y else F j) = fillU F 1 (fun _ => y) := by
  funext j
  unfold fillU
  by_cases e : j = 0
  · subst e; simp
  · have : ¬ j < 1 := by omega
    simp [e, this]
set_option maxHeartbeats 4000000 in
set_option maxRecDepth 100000 in
theorem ct_X5_best {k : Int} {g : AG} (h : LM g ∧ aR k) : MetI yX5_best wsX5_best rmX5_best ShW [.inr 21, .inl k] g (fun x g' => (¬ (0 ≤ k ∧ k ≤ 1) ∧ x = -2 ∧ g' = g) ∨ ((0 ≤ k ∧ k ≤ 1) ∧ ∃ (L : Int) (xs f : Nat → Int), bstQ (dM g (if k = 0 then 1 else 0)) (g 21 0).toNat L xs ((g 21 0).toNat - 1) ∧ x = L ∧ g' = row (row g 34 f) 29 (fillU (g 29) (g 21 0).toNat xs))) := by
  refine metI_of (cc := cX5_best) (nL := 11) false (by decide +kernel) rfl (Nat.le_of_ble_eq_true rfl) (fun q J C => ?_)
  show J q ShW 0 0 0 [some (.inr 21), some (.inl k), none, none, none, none, none, none, none, none, none] [] g
  refine j_wf C (fun hw => ?_)
  obtain ⟨hL, hka⟩ := h
  have hn := hL.1
  have hSr := hL.2.2.2.2.2.2
  have lp : ∀ (s : Int) (f : Nat → Int), (k = 0 ∨ k = 1) → s = (if k = 0 then 1 else 0) → (∀ p : Nat, p + 1 ≤ (g 21 0).toNat → ∀ a b, -10 ≤ a ∧ a ≤ 10 → -10 ≤ b ∧ b ≤ 10 → f (sp3 (p : Int) a b) = enc (bV (dM g s) ((g 21 0).toNat - 1 - p) p a b)) → ∀ n : Nat, ∀ (i : Nat) (L ow ah le : Int) (xs : Nat → Int) (l7 l8 l9 l10 : Option AV), (g 21 0).toNat - i = n → i + 1 ≤ (g 21 0).toNat → bstQ (dM g s) (g 21 0).toNat L xs i → ow = xs i → ah = (if i = 0 then 0 else xs (i - 1)) → (s = 1 → le = L - spn (dM g s) xs i) → -2300 * (i : Int) ≤ le → le ≤ 60000 → J q ShW 0 0 91 [some (.inr 21), some (.inl k), some (.inl L), some (.inl ow), some (.inl ah), some (.inl le), some (.inl (i : Int)), l7, l8, l9, l10] [] (row (row g 34 f) 29 (fillU (g 29) (i + 1) xs)) := by
    intro s f hk hks hT
    have hs : s = 0 ∨ s = 1 := by
      rcases hk with q | q
      · rw [if_pos q] at hks; exact Or.inr hks
      · rw [if_neg (by omega)] at hks; exact Or.inl hks
    have hD := dI_M hL hs
    refine byN _ (fun n ih i L ow ah le xs l7 l8 l9 l10 hn2 hi hB how hah hle1 hle2 hle3 => ?_)
    have hxr := bstQ_r hB
    have hLb := bst_L hD (by omega) (by omega) hB
    have e210 : (row (row g 34 f) 29 (fillU (g 29) (i + 1) xs)) 21 0 = g 21 0 := rfl
    have hS1 : ∀ j, -10 ≤ fillU (g 29) (i + 1) xs j ∧ fillU (g 29) (i + 1) xs j ≤ 10 := fun j => by
      unfold fillU
      split
      · exact hxr j (by omega)
      · exact hSr j
    have hL1 : LM (row (row g 34 f) 29 (fillU (g 29) (i + 1) xs)) := LM_row hL hS1
    have hinv := bstQ_inv hD hi hB i (Nat.le_refl _)
    rw [← hah, ← how] at hinv
    have howr : -10 ≤ ow ∧ ow ≤ 10 := by rw [how]; exact hxr i (Nat.le_refl _)
    have hahr : -10 ≤ ah ∧ ah ≤ 10 := by
      rw [hah]
      split
      · omega
      · exact hxr (i - 1) (by omega)
    refine j_iload C dX5_best_91 rfl ?_
    refine j_iconst C dX5_best_93 ?_
    refine j_iadd C dX5_best_94 ?_
    refine j_aload_n C dX5_best_95 rfl ?_
    refine j_getI C fX5_best_7 rfl rfl dX5_best_96 ?_
    rw [e210]
    refine j_icmp_ge C (tgt := 280) dX5_best_99 (by decide) (by first | omega | (refine ⟨?_, ?_⟩ <;> omega) | exact hw _ _ | exact nrm_R _) (by first | omega | (refine ⟨?_, ?_⟩ <;> omega) | exact hw _ _ | exact nrm_R _) (fun c_99 => ?_) (fun c_99 => ?_)
    · refine j_iload_n C dX5_best_280 rfl ?_
      refine j_iretI C dX5_best_281 (by intro h; cases h) (fun hw9 => ?_)
      refine Or.inr ⟨by omega, L, xs, f, ?_, rfl, ?_⟩
      · rw [← hks, show (g 21 0).toNat - 1 = i by omega]
        exact hB
      · rw [show (g 21 0).toNat = i + 1 by omega]
    · refine j_bipush C dX5_best_102 (by decide +kernel) ?_
      refine j_istore C dX5_best_104 (Nat.le_of_ble_eq_true rfl) ?_
      dsimp only [List.set]
      refine j_iconst C dX5_best_106 ?_
      refine j_istore C dX5_best_107 (Nat.le_of_ble_eq_true rfl) ?_
      dsimp only [List.set]
      refine j_iconst C dX5_best_109 ?_
      refine j_istore C dX5_best_110 (Nat.le_of_ble_eq_true rfl) ?_
      dsimp only [List.set]
      have hinv2 := hinv
      rw [show (g 21 0).toNat - 1 - i = ((g 21 0).toNat - 2 - i) + 1 by omega] at hinv2
      obtain ⟨cs, hcs⟩ := inv_ex hD hahr howr hinv2
      refine wh_best C hw hL s L ow ah le (spn (dM g s) xs i) i f xs hk hks hT (by omega) hahr howr ⟨by omega, hle3⟩ ⟨hLb.1, by omega⟩ (fun z => by rw [hah, if_pos z]) hL1 hinv2 hle1 (fun c l10 hfg => ?_) _ (-11) cs _ _ rfl (by omega) (by have := hcs.1; omega) hcs (fun x hx hg => by have := hg.1; omega)
      have hcr : -10 ≤ c ∧ c ≤ 10 := ⟨hfg.1.1, hfg.1.2.1⟩
      have hrb := erc_b hD i hahr howr hcr
      refine j_iload C dX5_best_250 rfl ?_
      
      refine j_iload C dX5_best_252 rfl ?_
      refine j_isub C dX5_best_254 ?_
      refine j_istore C dX5_best_255 (Nat.le_of_ble_eq_true rfl) ?_
      dsimp only [List.set]
      refine j_iload_n C dX5_best_257 rfl ?_
      refine j_istore C dX5_best_258 (Nat.le_of_ble_eq_true rfl) ?_
      dsimp only [List.set]
      refine j_iload C dX5_best_260 rfl ?_
      refine j_istore_n C dX5_best_262 (Nat.le_of_ble_eq_true rfl) ?_
      dsimp only [List.set]
      refine j_aload_n C dX5_best_263 rfl ?_
      refine j_getR C fX5_best_36 rfl rfl dX5_best_264 ?_
      refine j_iload C dX5_best_267 rfl ?_
      refine j_iconst C dX5_best_269 ?_
      refine j_iadd C dX5_best_270 ?_
      refine j_iload C dX5_best_271 rfl ?_
      refine j_iastore C rfl (by decide) dX5_best_273 (by first | omega | (refine ⟨?_, ?_⟩ <;> omega) | exact hw _ _ | exact nrm_R _) (by first | omega | (refine ⟨?_, ?_⟩ <;> omega) | exact hw _ _ | exact nrm_R _) (by refine ⟨?_, ?_⟩ <;> omega) ?_
      refine j_iinc C dX5_best_274 rfl ?_
      dsimp only [List.set]
      refine j_goto C (tgt := 91) dX5_best_277 (by decide) ?_
      have hB2 : bstQ (dM g s) (g 21 0).toNat L (fun j => if j = i + 1 then c else xs j) (i + 1) := bstQ_s hB (by rw [← hah, ← how]; exact hfg)
      have est : aset (row (row g 34 f) 29 (fillU (g 29) (i + 1) xs)) 29 ((i : Int) + 1).toNat c = row (row g 34 f) 29 (fillU (g 29) (i + 1 + 1) (fun j => if j = i + 1 then c else xs j)) := by
        rw [← fillU_u, show ((i : Int) + 1).toNat = i + 1 by omega, aset_row, row_s, row_row]
      rw [est]
      refine j_cast (ih _ (by omega) (i + 1) L c ow (le - erc (dM g s) i ah ow c) (fun j => if j = i + 1 then c else xs j) _ _ _ _ rfl (by omega) hB2 (by rw [if_pos rfl]) ?_ (fun z => ?_) (by omega) (by omega)) rfl rfl rfl
      · rw [if_neg (by omega), show i + 1 - 1 = i by omega, if_neg (by omega)]
        exact how
      · have z2 := hle1 z
        rw [spn, spn_c (ys := xs) i (fun j hj => if_neg (by omega))]
        have e1 : (if i = 0 then (0 : Int) else (fun j => if j = i + 1 then c else xs j) (i - 1)) = ah := by
          rw [hah]
          by_cases e : i = 0
          · rw [if_pos e, if_pos e]
          · rw [if_neg e, if_neg e]
            dsimp only
            rw [if_neg (by omega)]
        rw [e1]
        try dsimp only
        rw [if_neg (show ¬ i = i + 1 by omega), if_pos rfl, ← how]
        have htg := tog_c (a := spn (dM g s) xs i) (b := erc (dM g s) i ah ow c) hs
        show le - erc (dM g s) i ah ow c = L - tog s (spn (dM g s) xs i) (erc (dM g s) i ah ow c)
        omega
  have l1 : ∀ (s : Int) (f : Nat → Int), (k = 0 ∨ k = 1) → s = (if k = 0 then 1 else 0) → (∀ p : Nat, p + 1 ≤ (g 21 0).toNat → ∀ a b, -10 ≤ a ∧ a ≤ 10 → -10 ≤ b ∧ b ≤ 10 → f (sp3 (p : Int) a b) = enc (bV (dM g s) ((g 21 0).toNat - 1 - p) p a b)) → ∀ n : Nat, ∀ (b al ow : Int) (l5 l6 l7 l8 l9 l10 : Option AV), (11 - b).toNat = n → -10 ≤ b → b ≤ 11 → fbI (dM g s) (g 21 0).toNat b al ow → J q ShW 0 0 25 [some (.inr 21), some (.inl k), some (.inl al), some (.inl ow), some (.inl b), l5, l6, l7, l8, l9, l10] [] (row g 34 f) := by
    intro s f hk hks hT
    have hs : s = 0 ∨ s = 1 := by
      rcases hk with q | q
      · rw [if_pos q] at hks; exact Or.inr hks
      · rw [if_neg (by omega)] at hks; exact Or.inl hks
    have hD := dI_M hL hs
    refine byN _ (fun n ih b al ow l5 l6 l7 l8 l9 l10 hn2 hb1 hb2 hI => ?_)
    have hal := hI.1
    have hal2 := hI.2.1
    have how := hI.2.2.1
    refine j_iload C dX5_best_25 rfl ?_
    refine j_bipush C dX5_best_27 (by decide +kernel) ?_
    refine j_icmp_gt C (tgt := 75) dX5_best_29 (by decide) (by first | omega | (refine ⟨?_, ?_⟩ <;> omega) | exact hw _ _ | exact nrm_R _) (by first | omega | (refine ⟨?_, ?_⟩ <;> omega) | exact hw _ _ | exact nrm_R _) (fun c_29 => ?_) (fun c_29 => ?_)
    · refine j_iconst C dX5_best_75 ?_
      refine j_istore C dX5_best_76 (Nat.le_of_ble_eq_true rfl) ?_
      dsimp only [List.set]
      refine j_iload_n C dX5_best_78 rfl ?_
      refine j_istore C dX5_best_79 (Nat.le_of_ble_eq_true rfl) ?_
      dsimp only [List.set]
      refine j_aload_n C dX5_best_81 rfl ?_
      refine j_getR C fX5_best_36 rfl rfl dX5_best_82 ?_
      refine j_iconst C dX5_best_85 ?_
      refine j_iload_n C dX5_best_86 rfl ?_
      refine j_iastore C rfl (by decide) dX5_best_87 (by first | omega | (refine ⟨?_, ?_⟩ <;> omega) | exact hw _ _ | exact nrm_R _) (by first | omega | (refine ⟨?_, ?_⟩ <;> omega) | exact hw _ _ | exact nrm_R _) (by refine ⟨?_, ?_⟩ <;> omega) ?_
      refine j_iconst C dX5_best_88 ?_
      refine j_istore C dX5_best_89 (Nat.le_of_ble_eq_true rfl) ?_
      dsimp only [List.set]
      have e11 : b = 11 := by omega
      rw [e11] at hI
      have hB := fbI_bst hD (by omega) (by omega) hI
      have hLb := bst_L hD (by omega) (by omega) hB
      have est : aset (row g 34 f) 29 (0 : Int).toNat ow = row (row g 34 f) 29 (fillU (g 29) (0 + 1) (fun _ => ow)) := by
        rw [← fillU_1, aset_row]
        rfl
      rw [est]
      exact j_cast (lp s f hk hks hT _ 0 al ow 0 al (fun _ => ow) _ _ _ _ rfl (by omega) hB rfl rfl (fun _ => by show al = al - 0; omega) (by omega) (by omega)) rfl rfl rfl
    · have hbb : -10 ≤ b ∧ b ≤ 10 := ⟨hb1, by omega⟩
      have hVb := bV_b hD ((g 21 0).toNat - 1) 0 0 b ⟨by omega, by omega⟩ hbb
      have hVe := enc_c hVb.2.1
      have eix : (210 + b + 10).toNat = sp3 0 0 b := by
        unfold sp3
        omega
      have hTc : (row g 34 f) 34 (sp3 0 0 b) = enc (bV (dM g s) ((g 21 0).toNat - 1) 0 0 b) := hT 0 (by omega) 0 b ⟨by omega, by omega⟩ hbb
      refine j_aload_n C dX5_best_32 rfl ?_
      refine j_getR C fX5_best_60 rfl rfl dX5_best_33 ?_
      refine j_sipush C dX5_best_36 (by decide +kernel) ?_
      refine j_iload C dX5_best_39 rfl ?_
      refine j_iadd C dX5_best_41 ?_
      refine j_bipush C dX5_best_42 (by decide +kernel) ?_
      refine j_iadd C dX5_best_44 ?_
      refine j_iaload C rfl (by decide) dX5_best_45 (by first | omega | (refine ⟨?_, ?_⟩ <;> omega) | exact hw _ _ | exact nrm_R _) (by first | omega | (refine ⟨?_, ?_⟩ <;> omega) | exact hw _ _ | exact nrm_R _) ?_
      rw [eix, hTc]
      refine j_istore C dX5_best_46 (Nat.le_of_ble_eq_true rfl) ?_
      dsimp only [List.set]
      refine j_iload C dX5_best_48 rfl ?_
      refine j_if_lt C (tgt := 69) dX5_best_50 (by decide) (by first | omega | (refine ⟨?_, ?_⟩ <;> omega) | exact hw _ _ | exact nrm_R _) (fun c_50 => ?_) (fun c_50 => ?_)
      · refine j_iinc C dX5_best_69 rfl ?_
        dsimp only [List.set]
        refine j_goto C (tgt := 25) dX5_best_72 (by decide) ?_
        first
        | (refine ih _ (by omega) (b + 1) al ow _ _ _ _ _ _ rfl (by omega) (by omega) (fbI_n (by omega) hI))
        | (have hee : enc (bV (dM g s) ((g 21 0).toNat - 1) 0 0 b) = bV (dM g s) ((g 21 0).toNat - 1) 0 0 b := by omega
           rw [hee]
           exact ih _ (by omega) (b + 1) _ b _ _ _ _ _ _ rfl (by omega) (by omega) (fbI_y hbb hVb.1 (by omega) (by omega) hI))
      · refine j_iload_n C dX5_best_53 rfl ?_
        refine j_if_lt C (tgt := 63) dX5_best_54 (by decide) (by first | omega | (refine ⟨?_, ?_⟩ <;> omega) | exact hw _ _ | exact nrm_R _) (fun c_54 => ?_) (fun c_54 => ?_)
        · refine j_iload C dX5_best_63 rfl ?_
          refine j_istore_n C dX5_best_65 (Nat.le_of_ble_eq_true rfl) ?_
          dsimp only [List.set]
          refine j_iload C dX5_best_66 rfl ?_
          refine j_istore_n C dX5_best_68 (Nat.le_of_ble_eq_true rfl) ?_
          dsimp only [List.set]
          refine j_iinc C dX5_best_69 rfl ?_
          dsimp only [List.set]
          refine j_goto C (tgt := 25) dX5_best_72 (by decide) ?_
          first
          | (refine ih _ (by omega) (b + 1) al ow _ _ _ _ _ _ rfl (by omega) (by omega) (fbI_n (by omega) hI))
          | (have hee : enc (bV (dM g s) ((g 21 0).toNat - 1) 0 0 b) = bV (dM g s) ((g 21 0).toNat - 1) 0 0 b := by omega
             rw [hee]
             exact ih _ (by omega) (b + 1) _ b _ _ _ _ _ _ rfl (by omega) (by omega) (fbI_y hbb hVb.1 (by omega) (by omega) hI))
        · refine j_iload C dX5_best_57 rfl ?_
          refine j_iload_n C dX5_best_59 rfl ?_
          refine j_icmp_ge C (tgt := 69) dX5_best_60 (by decide) (by first | omega | (refine ⟨?_, ?_⟩ <;> omega) | exact hw _ _ | exact nrm_R _) (by first | omega | (refine ⟨?_, ?_⟩ <;> omega) | exact hw _ _ | exact nrm_R _) (fun c_60 => ?_) (fun c_60 => ?_)
          · refine j_iinc C dX5_best_69 rfl ?_
            dsimp only [List.set]
            refine j_goto C (tgt := 25) dX5_best_72 (by decide) ?_
            first
            | (refine ih _ (by omega) (b + 1) al ow _ _ _ _ _ _ rfl (by omega) (by omega) (fbI_n (by omega) hI))
            | (have hee : enc (bV (dM g s) ((g 21 0).toNat - 1) 0 0 b) = bV (dM g s) ((g 21 0).toNat - 1) 0 0 b := by omega
               rw [hee]
               exact ih _ (by omega) (b + 1) _ b _ _ _ _ _ _ rfl (by omega) (by omega) (fbI_y hbb hVb.1 (by omega) (by omega) hI))
          · refine j_iload C dX5_best_63 rfl ?_
            refine j_istore_n C dX5_best_65 (Nat.le_of_ble_eq_true rfl) ?_
            dsimp only [List.set]
            refine j_iload C dX5_best_66 rfl ?_
            refine j_istore_n C dX5_best_68 (Nat.le_of_ble_eq_true rfl) ?_
            dsimp only [List.set]
            refine j_iinc C dX5_best_69 rfl ?_
            dsimp only [List.set]
            refine j_goto C (tgt := 25) dX5_best_72 (by decide) ?_
            first
            | (refine ih _ (by omega) (b + 1) al ow _ _ _ _ _ _ rfl (by omega) (by omega) (fbI_n (by omega) hI))
            | (have hee : enc (bV (dM g s) ((g 21 0).toNat - 1) 0 0 b) = bV (dM g s) ((g 21 0).toNat - 1) 0 0 b := by omega
               rw [hee]
               exact ih _ (by omega) (b + 1) _ b _ _ _ _ _ _ rfl (by omega) (by omega) (fbI_y hbb hVb.1 (by omega) (by omega) hI))
  refine j_iload_n C dX5_best_0 rfl ?_
  refine j_iconst C dX5_best_1 ?_
  refine j_iconst C dX5_best_2 ?_
  refine j_callSi3 C vX5_best_75 rfl (Nat.le_of_ble_eq_true rfl) ⟨Nat.zero_le _, Nat.zero_le _⟩ dX5_best_3 (ct_X5_in ⟨hka, ⟨by omega, by omega⟩, ⟨by omega, by omega⟩⟩) (fun x_3 g_3 hk_3 => ?_)
  obtain ⟨e_3, hb_3, hi_3⟩ := hk_3
  have e_3 := e_3.symm
  subst e_3
  refine j_if_ne C (tgt := 12) dX5_best_6 (by decide) (by first | omega | (refine ⟨?_, ?_⟩ <;> omega) | exact hw _ _ | exact nrm_R _) (fun c_6 => ?_) (fun c_6 => ?_)
  · refine j_aload_n C dX5_best_12 rfl ?_
    refine j_iload_n C dX5_best_13 rfl ?_
    refine j_callVv1 C vX5_best_123 rfl rfl (Nat.le_of_ble_eq_true rfl) ⟨Nat.zero_le _, Nat.zero_le _⟩ dX5_best_14 (ct_X5_layLeast (s := if k = 0 then 1 else 0) ⟨hL, by omega, rfl⟩) (fun g_14 hk_14 => ?_)
    obtain ⟨f, rfl, hf⟩ := hk_14
    refine j_iconst C dX5_best_17 ?_
    refine j_istore_n C dX5_best_18 (Nat.le_of_ble_eq_true rfl) ?_
    dsimp only [List.set]
    refine j_iconst C dX5_best_19 ?_
    refine j_istore_n C dX5_best_20 (Nat.le_of_ble_eq_true rfl) ?_
    dsimp only [List.set]
    refine j_bipush C dX5_best_21 (by decide +kernel) ?_
    refine j_istore C dX5_best_23 (Nat.le_of_ble_eq_true rfl) ?_
    dsimp only [List.set]
    refine l1 (if k = 0 then 1 else 0) f (by omega) rfl hf _ (-10) (-1) 0 none none none none none none rfl (by omega) (by omega) ⟨by omega, by omega, ⟨by omega, by omega⟩, Or.inl ⟨rfl, fun x q1 q2 => by omega⟩⟩
  · refine j_bipush C dX5_best_9 (by decide +kernel) ?_
    refine j_iretI C dX5_best_11 (by intro h; cases h) (fun hw9 => ?_)
    exact Or.inl ⟨by omega, rfl, rfl⟩
