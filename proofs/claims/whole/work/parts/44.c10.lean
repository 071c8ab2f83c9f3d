set_option maxHeartbeats 4000000 in
set_option maxRecDepth 100000 in
theorem ct_X1_weighAll {g : AG} (h : GX g) : MetV yX1_weighAll wsX1_weighAll rmX1_weighAll ShW [.inr 18] g (fun g' => ∃ f : Nat → Int, tabX (g 18 0).toNat (g 19) f ∧ g' = aset (row g 20 f) 18 3 1) := by
  refine metV_of (cc := cX1_weighAll) (nL := 3) (by decide +kernel) rfl (Nat.le_of_ble_eq_true rfl) (fun q J C => ?_)
  show J q ShW 0 0 0 [some (.inr 18), none, none] [] g
  refine j_wf C (fun hw => ?_)
  obtain ⟨⟨h1, h2⟩, hco, hw1, hw2⟩ := h
  have h4 := two_b (g 18 0).toNat (by omega)
  have hc9 : (g 18 0).toNat < 10 := by omega
  have ec : (((g 18 0).toNat : Nat) : Int) = g 18 0 := by omega
  have es := b_shl (g 18 0).toNat (by omega)
  rw [ec] at es
  have inn : ∀ (l : Nat), l < 2 ^ (g 18 0).toNat → (∀ (f : Nat → Int) (l2 : Option AV), prtX (g 18 0).toNat (g 19) f l (g 18 0).toNat → J q ShW 0 0 75 [some (.inr 18), some (.inl (l : Int)), l2] [] (row g 20 f)) → ∀ k : Nat, ∀ (a : Nat) (f : Nat → Int), (g 18 0).toNat - a = k → a ≤ (g 18 0).toNat → prtX (g 18 0).toNat (g 19) f l a → J q ShW 0 0 22 [some (.inr 18), some (.inl (l : Int)), some (.inl (a : Int))] [] (row g 20 f) := by
    intro l hl kk
    refine byN _ (fun k ih a f hk ha hI => ?_)
    have e18 : (row g 20 f) 18 0 = g 18 0 := rfl
    have eix : ((l : Int) * 9 + (a : Int)).toNat = 9 * l + a := by omega
    refine j_iload_n C dX1_weighAll_22 rfl ?_
    refine j_aload_n C dX1_weighAll_23 rfl ?_
    refine j_getI C fX1_weighAll_24 rfl rfl dX1_weighAll_24 ?_
    rw [e18]
    refine j_icmp_ge C (tgt := 75) dX1_weighAll_27 (by decide) (by first | omega | (refine ⟨?_, ?_⟩ <;> omega) | exact hw _ _ | exact nrm_R _) (by first | omega | (refine ⟨?_, ?_⟩ <;> omega) | exact hw _ _ | exact nrm_R _) (fun c_27 => ?_) (fun c_27 => ?_)
    · refine kk f _ ?_
      rw [show (g 18 0).toNat = a by omega]
      rw [show (g 18 0).toNat = a by omega] at hI
      exact hI
    · refine j_iload_n C dX1_weighAll_30 rfl ?_
      refine j_iload_n C dX1_weighAll_31 rfl ?_
      refine j_callSi2 C vX1_weighAll_52 rfl (Nat.le_of_ble_eq_true rfl) ⟨Nat.zero_le _, Nat.zero_le _⟩ dX1_weighAll_32 (ct_X1_has ⟨by omega, by omega⟩) (fun x_32 g_32 hk_32 => ?_)
      obtain ⟨e_32, hb_32, hi_32⟩ := hk_32
      have e_32 := e_32.symm
      subst e_32
      refine j_if_ne C (tgt := 69) dX1_weighAll_35 (by decide) (by first | omega | (refine ⟨?_, ?_⟩ <;> omega) | exact hw _ _ | exact nrm_R _) (fun c_35 => ?_) (fun c_35 => ?_)
      · refine j_iinc C dX1_weighAll_69 rfl ?_
        dsimp only [List.set]
        refine j_goto C (tgt := 22) dX1_weighAll_72 (by decide) ?_
        first
        | (refine j_cast (ih _ (by omega) (a + 1) f rfl (by omega) (prtX_n (hi_32.mp (by omega)) hI)) rfl rfl rfl)
        | (refine j_cast (ih _ (by omega) (a + 1) (fun j => if j = 9 * l + a then (vX (g 19) f l a t) else f j) rfl (by omega) (prtX_s hc9 (by omega) (by omega) hI ⟨minX_of (by omega) ht2, by omega, by omega⟩)) rfl rfl ?_
           rw [eix]
           funext k' j
           by_cases a6 : k' = 20
           · subst a6
             simp [row, aset]
           · simp [row, aset, a6])
        | (refine j_cast (ih _ (by omega) (a + 1) (fun j => if j = 9 * l + a then 0 else f j) rfl (by omega) (prtX_s hc9 (by omega) (by omega) hI ⟨⟨fun _ => rfl, fun z => absurd z (by omega)⟩, by omega, by omega⟩)) rfl rfl ?_
           rw [eix]
           funext k' j
           by_cases a6 : k' = 20
           · subst a6
             simp [row, aset]
           · simp [row, aset, a6])
      · refine j_aload_n C dX1_weighAll_38 rfl ?_
        refine j_getR C fX1_weighAll_15 rfl rfl dX1_weighAll_39 ?_
        refine j_iload_n C dX1_weighAll_42 rfl ?_
        refine j_bipush C dX1_weighAll_43 (by decide +kernel) ?_
        refine j_imul C dX1_weighAll_45 ?_
        refine j_iload_n C dX1_weighAll_46 rfl ?_
        refine j_iadd C dX1_weighAll_47 ?_
        refine j_iload_n C dX1_weighAll_48 rfl ?_
        refine j_if_ne C (tgt := 56) dX1_weighAll_49 (by decide) (by first | omega | (refine ⟨?_, ?_⟩ <;> omega) | exact hw _ _ | exact nrm_R _) (fun c_49 => ?_) (fun c_49 => ?_)
        · refine j_aload_n C dX1_weighAll_56 rfl ?_
          refine j_iload_n C dX1_weighAll_57 rfl ?_
          refine j_iload_n C dX1_weighAll_58 rfl ?_
          refine j_aload_n C dX1_weighAll_59 rfl ?_
          refine j_iload_n C dX1_weighAll_60 rfl ?_
          refine j_iload_n C dX1_weighAll_61 rfl ?_
          refine j_callVi2 C vX1_weighAll_46 rfl rfl (Nat.le_of_ble_eq_true rfl) ⟨Nat.zero_le _, Nat.zero_le _⟩ dX1_weighAll_62 (ct_X1_lesserStep ⟨h1, h2, hl, by omega, hco, fun t q1 q2 => ⟨(prtX_b hc9 (by omega) q1 q2 hI).1, (prtX_b hc9 (by omega) q1 q2 hI).2.2⟩⟩) (fun x_62 g_62 hk_62 => ?_)
          obtain ⟨e_62, hs_62⟩ := hk_62
          have e_62 := e_62.symm
          subst e_62
          obtain ⟨t, ht1, ht2⟩ : ∃ t : Nat, x_62 = t ∧ stepS (g 18 0).toNat (g 19) f l a t := by
            rcases hs_62 with ⟨z, -⟩ | z
            · exact absurd z (by omega)
            · exact z
          subst ht1
          have ht3 := prtX_b hc9 (by omega) ht2.1 ht2.2.1 hI
          have ht4 := ht2.1
          have ht5 := hco (9 * a + t)
          have hvb : 0 ≤ vX (g 19) f l a t ∧ vX (g 19) f l a t ≤ 1000 * (pop l : Int) ∧ vX (g 19) f l a t ≤ 10000 := by
            unfold vX
            omega
          refine j_callVi3 C vX1_weighAll_56 rfl rfl (Nat.le_of_ble_eq_true rfl) ⟨Nat.zero_le _, Nat.zero_le _⟩ dX1_weighAll_65 (ct_X1_throughStep ⟨by omega, by omega, by omega⟩) (fun x_65 g_65 hk_65 => ?_)
          obtain ⟨e_65, rfl⟩ := hk_65
          have e_65 := e_65.symm
          subst e_65
          have e65 : vX ((row g 20 f) 19) ((row g 20 f) 20) l a t = vX (g 19) f l a t := rfl
          rw [e65]
          refine j_iastore C rfl (by decide) dX1_weighAll_68 (by first | omega | (refine ⟨?_, ?_⟩ <;> omega) | exact hw _ _ | exact nrm_R _) (by first | omega | (refine ⟨?_, ?_⟩ <;> omega) | exact hw _ _ | exact nrm_R _) (by first | omega | (refine ⟨?_, ?_⟩ <;> omega) | exact hw _ _ | exact nrm_R _) ?_
          refine j_iinc C dX1_weighAll_69 rfl ?_
          dsimp only [List.set]
          refine j_goto C (tgt := 22) dX1_weighAll_72 (by decide) ?_
          first
          | (refine j_cast (ih _ (by omega) (a + 1) f rfl (by omega) (prtX_n (hi_32.mp (by omega)) hI)) rfl rfl rfl)
          | (refine j_cast (ih _ (by omega) (a + 1) (fun j => if j = 9 * l + a then (vX (g 19) f l a t) else f j) rfl (by omega) (prtX_s hc9 (by omega) (by omega) hI ⟨minX_of (by omega) ht2, by omega, by omega⟩)) rfl rfl ?_
             rw [eix]
             funext k' j
             by_cases a6 : k' = 20
             · subst a6
               simp [row, aset]
             · simp [row, aset, a6])
          | (refine j_cast (ih _ (by omega) (a + 1) (fun j => if j = 9 * l + a then 0 else f j) rfl (by omega) (prtX_s hc9 (by omega) (by omega) hI ⟨⟨fun _ => rfl, fun z => absurd z (by omega)⟩, by omega, by omega⟩)) rfl rfl ?_
             rw [eix]
             funext k' j
             by_cases a6 : k' = 20
             · subst a6
               simp [row, aset]
             · simp [row, aset, a6])
        · refine j_iconst C dX1_weighAll_52 ?_
          refine j_goto C (tgt := 68) dX1_weighAll_53 (by decide) ?_
          refine j_iastore C rfl (by decide) dX1_weighAll_68 (by first | omega | (refine ⟨?_, ?_⟩ <;> omega) | exact hw _ _ | exact nrm_R _) (by first | omega | (refine ⟨?_, ?_⟩ <;> omega) | exact hw _ _ | exact nrm_R _) (by first | omega | (refine ⟨?_, ?_⟩ <;> omega) | exact hw _ _ | exact nrm_R _) ?_
          refine j_iinc C dX1_weighAll_69 rfl ?_
          dsimp only [List.set]
          refine j_goto C (tgt := 22) dX1_weighAll_72 (by decide) ?_
          first
          | (refine j_cast (ih _ (by omega) (a + 1) f rfl (by omega) (prtX_n (hi_32.mp (by omega)) hI)) rfl rfl rfl)
          | (refine j_cast (ih _ (by omega) (a + 1) (fun j => if j = 9 * l + a then (vX (g 19) f l a t) else f j) rfl (by omega) (prtX_s hc9 (by omega) (by omega) hI ⟨minX_of (by omega) ht2, by omega, by omega⟩)) rfl rfl ?_
             rw [eix]
             funext k' j
             by_cases a6 : k' = 20
             · subst a6
               simp [row, aset]
             · simp [row, aset, a6])
          | (refine j_cast (ih _ (by omega) (a + 1) (fun j => if j = 9 * l + a then 0 else f j) rfl (by omega) (prtX_s hc9 (by omega) (by omega) hI ⟨⟨fun _ => rfl, fun z => absurd z (by omega)⟩, by omega, by omega⟩)) rfl rfl ?_
             rw [eix]
             funext k' j
             by_cases a6 : k' = 20
             · subst a6
               simp [row, aset]
             · simp [row, aset, a6])
  have lp : ∀ k : Nat, ∀ (l : Nat) (f : Nat → Int) (l2 : Option AV), 2 ^ (g 18 0).toNat - l = k → l ≤ 2 ^ (g 18 0).toNat → prtX (g 18 0).toNat (g 19) f l 0 → J q ShW 0 0 10 [some (.inr 18), some (.inl (l : Int)), l2] [] (row g 20 f) := by
    refine byN _ (fun k ih l f l2 hk hl hI => ?_)
    have e18 : (row g 20 f) 18 0 = g 18 0 := rfl
    refine j_iload_n C dX1_weighAll_10 rfl ?_
    refine j_iconst C dX1_weighAll_11 ?_
    refine j_aload_n C dX1_weighAll_12 rfl ?_
    refine j_getI C fX1_weighAll_24 rfl rfl dX1_weighAll_13 ?_
    rw [e18]
    refine j_ishl C dX1_weighAll_16 (es) ?_
    refine j_icmp_ge C (tgt := 81) dX1_weighAll_17 (by decide) (by first | omega | (refine ⟨?_, ?_⟩ <;> omega) | exact hw _ _ | exact nrm_R _) (by first | omega | (refine ⟨?_, ?_⟩ <;> omega) | exact hw _ _ | exact nrm_R _) (fun c_17 => ?_) (fun c_17 => ?_)
    · refine j_aload_n C dX1_weighAll_81 rfl ?_
      refine j_iconst C dX1_weighAll_82 ?_
      refine j_putI C pX1_weighAll_28 rfl rfl (by first | omega | (refine ⟨?_, ?_⟩ <;> omega) | exact hw _ _ | exact nrm_R _) (fun _ => by first | exact Or.inl rfl | exact Or.inr rfl | omega) dX1_weighAll_83 ?_
      refine j_vretV C dX1_weighAll_86 (fun hw9 => ?_)
      refine ⟨f, fun l' q1 a' q2 q3 => hI l' a' (Or.inl (by omega)) q2 q3, rfl⟩
    · refine j_iconst C dX1_weighAll_20 ?_
      refine j_istore_n C dX1_weighAll_21 (Nat.le_of_ble_eq_true rfl) ?_
      dsimp only [List.set]
      refine inn l (by omega) (fun f l2 hI => ?_) _ 0 f rfl (by omega) hI
      refine j_iinc C dX1_weighAll_75 rfl ?_
      dsimp only [List.set]
      refine j_goto C (tgt := 10) dX1_weighAll_78 (by decide) ?_
      exact j_cast (ih _ (by omega) (l + 1) f l2 rfl (by omega) (prtX_c hI)) rfl rfl rfl
  refine j_aload_n C dX1_weighAll_0 rfl ?_
  refine j_getI C fX1_weighAll_28 rfl rfl dX1_weighAll_1 ?_
  refine j_if_eq C (tgt := 8) dX1_weighAll_4 (by decide) (by first | omega | (refine ⟨?_, ?_⟩ <;> omega) | exact hw _ _ | exact nrm_R _) (fun c_4 => ?_) (fun c_4 => ?_)
  · refine j_iconst C dX1_weighAll_8 ?_
    refine j_istore_n C dX1_weighAll_9 (Nat.le_of_ble_eq_true rfl) ?_
    dsimp only [List.set]
    refine j_cast (lp _ 0 (g 20) none rfl (by omega) (fun l' a' q1 q2 q3 => by omega)) rfl rfl ?_
    rw [row_id]
  · refine j_vretV C dX1_weighAll_7 (fun hw9 => ?_)
    refine ⟨g 20, hw2 (by omega), ?_⟩
    rw [row_id]
    have e9 := aset_id g 18 3
    rw [show g 18 3 = 1 by omega] at e9
    exact e9.symm
set_option maxHeartbeats 4000000 in
set_option maxRecDepth 100000 in
theorem ct_X1_leastCosts {a : Nat} {g : AG} (h : GX g ∧ a < (g 18 0).toNat) : MetI yX1_leastCosts wsX1_leastCosts rmX1_leastCosts ShW [.inr 18, .inl (a : Int)] g (fun x g' => ∃ f : Nat → Int, tabX (g 18 0).toNat (g 19) f ∧ x = f (9 * clr (2 ^ (g 18 0).toNat - 1) a + a) ∧ g' = aset (row g 20 f) 18 3 1) := by
  refine metI_of (cc := cX1_leastCosts) (nL := 2) false (by decide +kernel) rfl (Nat.le_of_ble_eq_true rfl) (fun q J C => ?_)
  show J q ShW 0 0 0 [some (.inr 18), some (.inl (a : Int))] [] g
  refine j_wf C (fun hw => ?_)
  obtain ⟨hG, ha⟩ := h
  have hc := hG.1
  have h4 := two_b (g 18 0).toNat (by omega)
  have h5 := ful_clr (g 18 0).toNat (by omega) a ha
  refine j_aload_n C dX1_leastCosts_0 rfl ?_
  refine j_callVv0 C vX1_leastCosts_36 rfl rfl (Nat.le_of_ble_eq_true rfl) ⟨Nat.zero_le _, Nat.zero_le _⟩ dX1_leastCosts_1 (ct_X1_weighAll hG) (fun g_1 hk_1 => ?_)
  obtain ⟨f, hf, rfl⟩ := hk_1
  refine j_aload_n C dX1_leastCosts_4 rfl ?_
  refine j_aload_n C dX1_leastCosts_5 rfl ?_
  refine j_iload_n C dX1_leastCosts_6 rfl ?_
  refine j_callVi1 C vX1_leastCosts_39 rfl rfl (Nat.le_of_ble_eq_true rfl) ⟨Nat.zero_le _, Nat.zero_le _⟩ dX1_leastCosts_7 (ct_X1_allBut ⟨hc.1, hc.2, by omega⟩) (fun x_7 g_7 hk_7 => ?_)
  obtain ⟨e_7, rfl⟩ := hk_7
  have e_7 := e_7.symm
  subst e_7
  refine j_iload_n C dX1_leastCosts_10 rfl ?_
  refine j_callVi2 C vX1_leastCosts_43 rfl rfl (Nat.le_of_ble_eq_true rfl) ⟨Nat.zero_le _, Nat.zero_le _⟩ dX1_leastCosts_11 (ct_X1_restOf ⟨show clr (2 ^ (g 18 0).toNat - 1) a < 512 by omega, by omega⟩) (fun x_11 g_11 hk_11 => ?_)
  obtain ⟨e_11, rfl⟩ := hk_11
  have e_11 := e_11.symm
  subst e_11
  refine j_iretI C dX1_leastCosts_14 (by intro h; cases h) (fun hw9 => ?_)
  exact ⟨f, hf, rfl, rfl⟩
set_option maxHeartbeats 4000000 in
set_option maxRecDepth 100000 in
theorem ct_X1_stepOf {a i : Nat} {g : AG} (h : GX g ∧ a < (g 18 0).toNat ∧ i < (g 18 0).toNat) : MetI yX1_stepOf wsX1_stepOf rmX1_stepOf ShW [.inr 18, .inl (a : Int), .inl (i : Int)] g (fun x g' => ∃ f : Nat → Int, tabX (g 18 0).toNat (g 19) f ∧ x = (((trS (g 18 0).toNat (g 19) f (clr (2 ^ (g 18 0).toNat - 1) a) a i).2 : Nat) : Int) ∧ g' = aset (row g 20 f) 18 3 1) := by
  refine metI_of (cc := cX1_stepOf) (nL := 6) false (by decide +kernel) rfl (Nat.le_of_ble_eq_true rfl) (fun q J C => ?_)
  show J q ShW 0 0 0 [some (.inr 18), some (.inl (a : Int)), some (.inl (i : Int)), none, none, none] [] g
  refine j_wf C (fun hw => ?_)
  obtain ⟨hG, ha, hi⟩ := h
  have hc := hG.1
  have hco := hG.2.1
  have h4 := two_b (g 18 0).toNat (by omega)
  have h5 := ful_clr (g 18 0).toNat (by omega) a ha
  have hc9 : (g 18 0).toNat < 10 := by omega
  have lp : ∀ (f : Nat → Int), tabX (g 18 0).toNat (g 19) f → ∀ n : Nat, ∀ (k l at' : Nat), i - k = n → k ≤ i → trS (g 18 0).toNat (g 19) f (clr (2 ^ (g 18 0).toNat - 1) a) a k = (l, at') → l < 2 ^ (g 18 0).toNat → at' < (g 18 0).toNat → ¬ tb l at' → pop l + k + 1 = (g 18 0).toNat → J q ShW 0 0 16 [some (.inr 18), some (.inl (a : Int)), some (.inl (i : Int)), some (.inl (at' : Int)), some (.inl (l : Int)), some (.inl (k : Int))] [] (aset (row g 20 f) 18 3 1) := by
    intro f hf
    refine byN _ (fun n ih k l at' hn hk hT hl hat hnt hpop => ?_)
    refine j_iload C dX1_stepOf_16 rfl ?_
    refine j_iload_n C dX1_stepOf_18 rfl ?_
    refine j_icmp_ge C (tgt := 44) dX1_stepOf_19 (by decide) (by first | omega | (refine ⟨?_, ?_⟩ <;> omega) | exact hw _ _ | exact nrm_R _) (by first | omega | (refine ⟨?_, ?_⟩ <;> omega) | exact hw _ _ | exact nrm_R _) (fun c_19 => ?_) (fun c_19 => ?_)
    · refine j_iload_n C dX1_stepOf_44 rfl ?_
      refine j_iretI C dX1_stepOf_45 (by intro h; cases h) (fun hw9 => ?_)
      refine ⟨f, hf, ?_, rfl⟩
      rw [show i = k by omega, hT]
    · refine j_aload_n C dX1_stepOf_22 rfl ?_
      refine j_iload C dX1_stepOf_23 rfl ?_
      refine j_iload_n C dX1_stepOf_25 rfl ?_
      refine j_callVi2 C vX1_stepOf_46 rfl rfl (Nat.le_of_ble_eq_true rfl) ⟨Nat.zero_le _, Nat.zero_le _⟩ dX1_stepOf_26 (ct_X1_lesserStep ⟨hc.1, hc.2, hl, by omega, hco, fun t q1 q2 => (by have q1 : t < (g 18 0).toNat := q1; have z1 := clr_lt l (by omega) t (by omega) q2; have z2 := (hf (clr l t) (by omega) t q1 (clr_tb l (by omega) t (by omega))).2; have z3 := (pop_b (clr l t) (by omega)).1; show 0 ≤ f (9 * clr l t + t) ∧ f (9 * clr l t + t) ≤ 9000; omega)⟩) (fun x_26 g_26 hk_26 => ?_)
      obtain ⟨e_26, hs_26⟩ := hk_26
      have e_26 := e_26.symm
      subst e_26
      have hl0 : l ≠ 0 := by
        intro z
        subst z
        have : pop 0 = 0 := rfl
        omega
      obtain ⟨t, ht1, ht2⟩ : ∃ t : Nat, x_26 = t ∧ stepS (g 18 0).toNat (g 19) f l at' t := by
        rcases hs_26 with ⟨z, -⟩ | z
        · exact absurd z hl0
        · exact z
      subst ht1
      have ht3 := ht2.1
      have ht4 := clr_lt l (by omega) t (by omega) ht2.2.1
      have ht5 := clr_pop l (by omega) t (by omega) ht2.2.1
      refine j_istore_n C dX1_stepOf_29 (Nat.le_of_ble_eq_true rfl) ?_
      dsimp only [List.set]
      refine j_iload C dX1_stepOf_30 rfl ?_
      refine j_iload_n C dX1_stepOf_32 rfl ?_
      refine j_callSi2 C vX1_stepOf_49 rfl (Nat.le_of_ble_eq_true rfl) ⟨Nat.zero_le _, Nat.zero_le _⟩ dX1_stepOf_33 (ct_X1_without ⟨by omega, by omega⟩) (fun x_33 g_33 hk_33 => ?_)
      obtain ⟨e_33, rfl⟩ := hk_33
      have e_33 := e_33.symm
      subst e_33
      refine j_istore C dX1_stepOf_36 (Nat.le_of_ble_eq_true rfl) ?_
      dsimp only [List.set]
      refine j_iinc C dX1_stepOf_38 rfl ?_
      dsimp only [List.set]
      refine j_goto C (tgt := 16) dX1_stepOf_41 (by decide) ?_
      refine j_cast (ih _ (by omega) (k + 1) (clr l t) t rfl (by omega) ?_ (by omega) ht3 (clr_tb l (by omega) t (by omega)) (by omega)) rfl rfl rfl
      rw [trS, hT]
      dsimp only
      rw [nxS_e ht2]
  refine j_aload_n C dX1_stepOf_0 rfl ?_
  refine j_callVv0 C vX1_stepOf_36 rfl rfl (Nat.le_of_ble_eq_true rfl) ⟨Nat.zero_le _, Nat.zero_le _⟩ dX1_stepOf_1 (ct_X1_weighAll hG) (fun g_1 hk_1 => ?_)
  obtain ⟨f, hf, rfl⟩ := hk_1
  refine j_iload_n C dX1_stepOf_4 rfl ?_
  refine j_istore_n C dX1_stepOf_5 (Nat.le_of_ble_eq_true rfl) ?_
  dsimp only [List.set]
  refine j_aload_n C dX1_stepOf_6 rfl ?_
  refine j_iload_n C dX1_stepOf_7 rfl ?_
  refine j_callVi1 C vX1_stepOf_39 rfl rfl (Nat.le_of_ble_eq_true rfl) ⟨Nat.zero_le _, Nat.zero_le _⟩ dX1_stepOf_8 (ct_X1_allBut ⟨hc.1, hc.2, by omega⟩) (fun x_8 g_8 hk_8 => ?_)
  obtain ⟨e_8, rfl⟩ := hk_8
  have e_8 := e_8.symm
  subst e_8
  refine j_istore C dX1_stepOf_11 (Nat.le_of_ble_eq_true rfl) ?_
  dsimp only [List.set]
  refine j_iconst C dX1_stepOf_13 ?_
  refine j_istore C dX1_stepOf_14 (Nat.le_of_ble_eq_true rfl) ?_
  dsimp only [List.set]
  exact lp f hf _ 0 (clr (2 ^ (g 18 0).toNat - 1) a) a rfl (by omega) rfl h5.2.1 ha h5.2.2.2.1 (by omega)
set_option maxHeartbeats 4000000 in
set_option maxRecDepth 100000 in
theorem ct_X4_tour {p : Int} {g : AG} (h : GX g ∧ aR p) : MetI yX4_tour wsX4_tour rmX4_tour ShW [.inr 0, .inl p] g (fun x g' => (¬ (0 ≤ p ∧ p ≤ g 18 0 - 1) ∧ x = -1 ∧ g' = g) ∨ ((0 ≤ p ∧ p ≤ g 18 0 - 1) ∧ ∃ f : Nat → Int, tabX (g 18 0).toNat (g 19) f ∧ x = f (9 * clr (2 ^ (g 18 0).toNat - 1) p.toNat + p.toNat) ∧ g' = aset (row g 20 f) 18 3 1)) := by
  refine metI_of (cc := cX4_tour) (nL := 2) false (by decide +kernel) rfl (Nat.le_of_ble_eq_true rfl) (fun q J C => ?_)
  show J q ShW 0 0 0 [some (.inr 0), some (.inl p)] [] g
  refine j_wf C (fun hw => ?_)
  obtain ⟨hG, hp⟩ := h
  have hc := hG.1
  refine j_aload_n C dX4_tour_0 rfl ?_
  refine j_iload_n C dX4_tour_1 rfl ?_
  refine j_callVi1 C vX4_tour_149 rfl rfl (Nat.le_of_ble_eq_true rfl) ⟨Nat.zero_le _, Nat.zero_le _⟩ dX4_tour_2 (ct_X4_isGrade ⟨hp, hc.1, hc.2⟩) (fun x_2 g_2 hk_2 => ?_)
  obtain ⟨e_2, hb_2, hi_2⟩ := hk_2
  have e_2 := e_2.symm
  subst e_2
  refine j_if_ne C (tgt := 10) dX4_tour_5 (by decide) (by first | omega | (refine ⟨?_, ?_⟩ <;> omega) | exact hw _ _ | exact nrm_R _) (fun c_5 => ?_) (fun c_5 => ?_)
  · obtain ⟨a, rfl⟩ : ∃ a : Nat, p = (a : Int) := ⟨p.toNat, by omega⟩
    refine j_aload_n C dX4_tour_10 rfl ?_
    refine j_getR C fX4_tour_35 rfl rfl dX4_tour_11 ?_
    refine j_iload_n C dX4_tour_14 rfl ?_
    refine j_callVi1 C vX4_tour_155 rfl rfl (Nat.le_of_ble_eq_true rfl) ⟨Nat.zero_le _, Nat.zero_le _⟩ dX4_tour_15 (ct_X1_leastCosts ⟨hG, by omega⟩) (fun x_15 g_15 hk_15 => ?_)
    obtain ⟨f, hf, hx_15, rfl⟩ := hk_15
    refine j_iretI C dX4_tour_18 (by intro h; cases h) (fun hw9 => ?_)
    exact Or.inr ⟨by omega, f, hf, hx_15, rfl⟩
  · refine j_iconst C dX4_tour_8 ?_
    refine j_iretI C dX4_tour_9 (by intro h; cases h) (fun hw9 => ?_)
    exact Or.inl ⟨by omega, rfl, rfl⟩
set_option maxHeartbeats 4000000 in
set_option maxRecDepth 100000 in
theorem ct_X4_tourAt {p i : Int} {g : AG} (h : GX g ∧ aR p ∧ aR i) : MetI yX4_tourAt wsX4_tourAt rmX4_tourAt ShW [.inr 0, .inl p, .inl i] g (fun x g' => (¬ (0 ≤ p ∧ p ≤ g 18 0 - 1) ∧ x = -1 ∧ g' = g) ∨ ((0 ≤ p ∧ p ≤ g 18 0 - 1) ∧ ¬ (0 ≤ i ∧ i ≤ g 18 0 - 1) ∧ x = -6 ∧ g' = g) ∨ ((0 ≤ p ∧ p ≤ g 18 0 - 1) ∧ (0 ≤ i ∧ i ≤ g 18 0 - 1) ∧ ∃ f : Nat → Int, tabX (g 18 0).toNat (g 19) f ∧ x = (((trS (g 18 0).toNat (g 19) f (clr (2 ^ (g 18 0).toNat - 1) p.toNat) p.toNat i.toNat).2 : Nat) : Int) ∧ g' = aset (row g 20 f) 18 3 1)) := by
  refine metI_of (cc := cX4_tourAt) (nL := 3) false (by decide +kernel) rfl (Nat.le_of_ble_eq_true rfl) (fun q J C => ?_)
  show J q ShW 0 0 0 [some (.inr 0), some (.inl p), some (.inl i)] [] g
  refine j_wf C (fun hw => ?_)
  obtain ⟨hG, hp, hi⟩ := h
  have hc := hG.1
  refine j_aload_n C dX4_tourAt_0 rfl ?_
  refine j_iload_n C dX4_tourAt_1 rfl ?_
  refine j_callVi1 C vX4_tourAt_149 rfl rfl (Nat.le_of_ble_eq_true rfl) ⟨Nat.zero_le _, Nat.zero_le _⟩ dX4_tourAt_2 (ct_X4_isGrade ⟨hp, hc.1, hc.2⟩) (fun x_2 g_2 hk_2 => ?_)
  obtain ⟨e_2, hb_2, hi_2⟩ := hk_2
  have e_2 := e_2.symm
  subst e_2
  refine j_if_ne C (tgt := 10) dX4_tourAt_5 (by decide) (by first | omega | (refine ⟨?_, ?_⟩ <;> omega) | exact hw _ _ | exact nrm_R _) (fun c_5 => ?_) (fun c_5 => ?_)
  · obtain ⟨a, rfl⟩ : ∃ a : Nat, p = (a : Int) := ⟨p.toNat, by omega⟩
    refine j_aload_n C dX4_tourAt_10 rfl ?_
    refine j_iload_n C dX4_tourAt_11 rfl ?_
    refine j_callVi1 C vX4_tourAt_149 rfl rfl (Nat.le_of_ble_eq_true rfl) ⟨Nat.zero_le _, Nat.zero_le _⟩ dX4_tourAt_12 (ct_X4_isGrade ⟨hi, hc.1, hc.2⟩) (fun x_12 g_12 hk_12 => ?_)
    obtain ⟨e_12, hb_12, hi_12⟩ := hk_12
    have e_12 := e_12.symm
    subst e_12
    refine j_if_ne C (tgt := 21) dX4_tourAt_15 (by decide) (by first | omega | (refine ⟨?_, ?_⟩ <;> omega) | exact hw _ _ | exact nrm_R _) (fun c_15 => ?_) (fun c_15 => ?_)
    · obtain ⟨b, rfl⟩ : ∃ b : Nat, i = (b : Int) := ⟨i.toNat, by omega⟩
      refine j_aload_n C dX4_tourAt_21 rfl ?_
      refine j_getR C fX4_tourAt_35 rfl rfl dX4_tourAt_22 ?_
      refine j_iload_n C dX4_tourAt_25 rfl ?_
      refine j_iload_n C dX4_tourAt_26 rfl ?_
      refine j_callVi2 C vX4_tourAt_158 rfl rfl (Nat.le_of_ble_eq_true rfl) ⟨Nat.zero_le _, Nat.zero_le _⟩ dX4_tourAt_27 (ct_X1_stepOf ⟨hG, by omega, by omega⟩) (fun x_27 g_27 hk_27 => ?_)
      obtain ⟨f, hf, hx_27, rfl⟩ := hk_27
      refine j_iretI C dX4_tourAt_30 (by intro h; cases h) (fun hw9 => ?_)
      exact Or.inr (Or.inr ⟨by omega, by omega, f, hf, hx_27, rfl⟩)
    · refine j_bipush C dX4_tourAt_18 (by decide +kernel) ?_
      refine j_iretI C dX4_tourAt_20 (by intro h; cases h) (fun hw9 => ?_)
      exact Or.inr (Or.inl ⟨by omega, by omega, rfl, rfl⟩)
  · refine j_iconst C dX4_tourAt_8 ?_
    refine j_iretI C dX4_tourAt_9 (by intro h; cases h) (fun hw9 => ?_)
    exact Or.inl ⟨by omega, rfl, rfl⟩
set_option maxHeartbeats 4000000 in
set_option maxRecDepth 100000 in
theorem ct_X5_layRest {g : AG} (h : GM g) : MetV yX5_layRest wsX5_layRest rmX5_layRest ShW [.inr 21] g (fun g' => ∃ f : Nat → Int, tabM (g 21 18).toNat (g 33) f ∧ g' = row g 37 f) := by
  refine metV_of (cc := cX5_layRest) (nL := 6) (by decide +kernel) rfl (Nat.le_of_ble_eq_true rfl) (fun q J C => ?_)
  show J q ShW 0 0 0 [some (.inr 21), none, none, none, none, none] [] g
  refine j_wf C (fun hw => ?_)
  obtain ⟨⟨h1, h2⟩, hco⟩ := h
  have h4 := two_b (g 21 18).toNat (by omega)
  have hc9 : (g 21 18).toNat < 10 := by omega
  have ec : (((g 21 18).toNat : Nat) : Int) = g 21 18 := by omega
  have es := b_shl (g 21 18).toNat (by omega)
  rw [ec] at es
  have inn : ∀ (s a : Nat) (f : Nat → Int), 0 < s → s < 2 ^ (g 21 18).toNat → a < (g 21 18).toNat → prtM (g 21 18).toNat (g 33) f s a → (∀ (b : Int) (l4 l5 : Option AV), minM (g 21 18).toNat (g 33) f s a b ∧ 0 ≤ b ∧ b ≤ 1000 * (9 - (pop s : Int)) → J q ShW 0 0 126 [some (.inr 21), some (.inl (s : Int)), some (.inl (a : Int)), some (.inl b), l4, l5] [] (row g 37 f)) → ∀ n : Nat, ∀ (k : Nat) (b : Int) (l5 : Option AV), (g 21 18).toNat - k = n → k ≤ (g 21 18).toNat → -1 ≤ b → b ≤ 10000 → mnI (g 21 18).toNat (g 33) f s a k b → J q ShW 0 0 44 [some (.inr 21), some (.inl (s : Int)), some (.inl (a : Int)), some (.inl b), some (.inl (k : Int)), l5] [] (row g 37 f) := by
    intro s a f hs0 hs ha hp kk
    refine byN _ (fun n ih k b l5 hn hk hb0 hb1 hI => ?_)
    have e18 : (row g 37 f) 21 18 = g 21 18 := rfl
    refine j_iload C dX5_layRest_44 rfl ?_
    refine j_aload_n C dX5_layRest_46 rfl ?_
    refine j_getI C fX5_layRest_133 rfl rfl dX5_layRest_47 ?_
    rw [e18]
    refine j_icmp_ge C (tgt := 126) dX5_layRest_50 (by decide) (by first | omega | (refine ⟨?_, ?_⟩ <;> omega) | exact hw _ _ | exact nrm_R _) (by first | omega | (refine ⟨?_, ?_⟩ <;> omega) | exact hw _ _ | exact nrm_R _) (fun c_50 => ?_) (fun c_50 => ?_)
    · refine kk b _ _ (mnI_end hc9 hs hco hp ?_)
      rw [show (g 21 18).toNat = k by omega]
      rw [show (g 21 18).toNat = k by omega] at hI
      exact hI
    · have hd2 : s / 2 ^ k < 512 := Nat.lt_of_le_of_lt (Nat.div_le_self _ _) (by omega)
      refine j_iload_n C dX5_layRest_53 rfl ?_
      refine j_iload C dX5_layRest_54 rfl ?_
      refine j_ishr C dX5_layRest_56 (b_shr s (by omega) k (by omega)) ?_
      refine j_iconst C dX5_layRest_57 ?_
      refine j_iand C dX5_layRest_58 (b_one _ hd2) ?_
      refine j_if_ne C (tgt := 95) dX5_layRest_59 (by decide) (by first | omega | (refine ⟨?_, ?_⟩ <;> omega) | exact hw _ _ | exact nrm_R _) (fun c_59 => ?_) (fun c_59 => ?_)
      · refine j_iconst C dX5_layRest_95 ?_
        refine j_istore C dX5_layRest_96 (Nat.le_of_ble_eq_true rfl) ?_
        dsimp only [List.set]
        refine j_iload C dX5_layRest_98 rfl ?_
        refine j_if_lt C (tgt := 118) dX5_layRest_100 (by decide) (by first | omega | (refine ⟨?_, ?_⟩ <;> omega) | exact hw _ _ | exact nrm_R _) (fun c_100 => ?_) (fun c_100 => ?_)
        · refine j_iload_n C dX5_layRest_118 rfl ?_
          refine j_istore_n C dX5_layRest_119 (Nat.le_of_ble_eq_true rfl) ?_
          dsimp only [List.set]
          refine j_iinc C dX5_layRest_120 rfl ?_
          dsimp only [List.set]
          refine j_goto C (tgt := 44) dX5_layRest_123 (by decide) ?_
          first
          | (exfalso; omega)
          | (refine j_cast (ih _ (by omega) (k + 1) b _ rfl (by omega) hb0 hb1 (mnI_skip (by unfold tb; omega) hI)) rfl rfl rfl)
          | (refine j_cast (ih _ (by omega) (k + 1) (vM (g 33) f s a k) _ rfl (by omega) (by omega) (by omega) (mnI_take hnf hnt hvb.1 (by omega) hI)) rfl rfl rfl)
          | (refine j_cast (ih _ (by omega) (k + 1) b _ rfl (by omega) hb0 hb1 (mnI_keep hnf (by omega) (by omega) hI)) rfl rfl rfl)
        · refine j_iload_n C dX5_layRest_103 rfl ?_
          refine j_if_lt C (tgt := 113) dX5_layRest_104 (by decide) (by first | omega | (refine ⟨?_, ?_⟩ <;> omega) | exact hw _ _ | exact nrm_R _) (fun c_104 => ?_) (fun c_104 => ?_)
          · refine j_iload C dX5_layRest_113 rfl ?_
            refine j_goto C (tgt := 119) dX5_layRest_115 (by decide) ?_
            refine j_istore_n C dX5_layRest_119 (Nat.le_of_ble_eq_true rfl) ?_
            dsimp only [List.set]
            refine j_iinc C dX5_layRest_120 rfl ?_
            dsimp only [List.set]
            refine j_goto C (tgt := 44) dX5_layRest_123 (by decide) ?_
            first
            | (exfalso; omega)
            | (refine j_cast (ih _ (by omega) (k + 1) b _ rfl (by omega) hb0 hb1 (mnI_skip (by unfold tb; omega) hI)) rfl rfl rfl)
            | (refine j_cast (ih _ (by omega) (k + 1) (vM (g 33) f s a k) _ rfl (by omega) (by omega) (by omega) (mnI_take hnf hnt hvb.1 (by omega) hI)) rfl rfl rfl)
            | (refine j_cast (ih _ (by omega) (k + 1) b _ rfl (by omega) hb0 hb1 (mnI_keep hnf (by omega) (by omega) hI)) rfl rfl rfl)
          · refine j_iload C dX5_layRest_107 rfl ?_
            refine j_iload_n C dX5_layRest_109 rfl ?_
            refine j_icmp_ge C (tgt := 118) dX5_layRest_110 (by decide) (by first | omega | (refine ⟨?_, ?_⟩ <;> omega) | exact hw _ _ | exact nrm_R _) (by first | omega | (refine ⟨?_, ?_⟩ <;> omega) | exact hw _ _ | exact nrm_R _) (fun c_110 => ?_) (fun c_110 => ?_)
            · refine j_iload_n C dX5_layRest_118 rfl ?_
              refine j_istore_n C dX5_layRest_119 (Nat.le_of_ble_eq_true rfl) ?_
              dsimp only [List.set]
              refine j_iinc C dX5_layRest_120 rfl ?_
              dsimp only [List.set]
              refine j_goto C (tgt := 44) dX5_layRest_123 (by decide) ?_
              first
              | (exfalso; omega)
              | (refine j_cast (ih _ (by omega) (k + 1) b _ rfl (by omega) hb0 hb1 (mnI_skip (by unfold tb; omega) hI)) rfl rfl rfl)
              | (refine j_cast (ih _ (by omega) (k + 1) (vM (g 33) f s a k) _ rfl (by omega) (by omega) (by omega) (mnI_take hnf hnt hvb.1 (by omega) hI)) rfl rfl rfl)
              | (refine j_cast (ih _ (by omega) (k + 1) b _ rfl (by omega) hb0 hb1 (mnI_keep hnf (by omega) (by omega) hI)) rfl rfl rfl)
            · refine j_iload C dX5_layRest_113 rfl ?_
              refine j_goto C (tgt := 119) dX5_layRest_115 (by decide) ?_
              refine j_istore_n C dX5_layRest_119 (Nat.le_of_ble_eq_true rfl) ?_
              dsimp only [List.set]
              refine j_iinc C dX5_layRest_120 rfl ?_
              dsimp only [List.set]
              refine j_goto C (tgt := 44) dX5_layRest_123 (by decide) ?_
              first
              | (exfalso; omega)
              | (refine j_cast (ih _ (by omega) (k + 1) b _ rfl (by omega) hb0 hb1 (mnI_skip (by unfold tb; omega) hI)) rfl rfl rfl)
              | (refine j_cast (ih _ (by omega) (k + 1) (vM (g 33) f s a k) _ rfl (by omega) (by omega) (by omega) (mnI_take hnf hnt hvb.1 (by omega) hI)) rfl rfl rfl)
              | (refine j_cast (ih _ (by omega) (k + 1) b _ rfl (by omega) hb0 hb1 (mnI_keep hnf (by omega) (by omega) hI)) rfl rfl rfl)
      · have hnt : ¬ tb s k := by unfold tb; omega
        have hnf : s ≠ 2 ^ (g 21 18).toNat - 1 := fun z => hnt (full_tb hc9 (by omega) z)
        have hst := sto_lt (g 21 18).toNat hc9 s hs k (by omega)
        have hpb := prtM_b hc9 hs (by omega) hnt hp
        have hcb := hco (9 * a + k)
        have hvb : 0 ≤ vM (g 33) f s a k ∧ vM (g 33) f s a k ≤ 10000 := by unfold vM; omega
        have ev : (row g 37 f) 33 (9 * (a : Int) + (k : Int)).toNat + (row g 37 f) 37 (9 * ((sto s k : Nat) : Int) + (k : Int)).toNat = vM (g 33) f s a k := by
          rw [show (9 * (a : Int) + (k : Int)).toNat = 9 * a + k by omega, show (9 * ((sto s k : Nat) : Int) + (k : Int)).toNat = 9 * sto s k + k by omega]
          rfl
        refine j_aload_n C dX5_layRest_62 rfl ?_
        refine j_getR C fX5_layRest_57 rfl rfl dX5_layRest_63 ?_
        refine j_bipush C dX5_layRest_66 (by decide +kernel) ?_
        refine j_iload_n C dX5_layRest_68 rfl ?_
        refine j_imul C dX5_layRest_69 ?_
        refine j_iload C dX5_layRest_70 rfl ?_
        refine j_iadd C dX5_layRest_72 ?_
        refine j_iaload C rfl (by decide) dX5_layRest_73 (by first | omega | (refine ⟨?_, ?_⟩ <;> omega) | exact hw _ _ | exact nrm_R _) (by first | omega | (refine ⟨?_, ?_⟩ <;> omega) | exact hw _ _ | exact nrm_R _) ?_
        refine j_aload_n C dX5_layRest_74 rfl ?_
        refine j_getR C fX5_layRest_69 rfl rfl dX5_layRest_75 ?_
        refine j_bipush C dX5_layRest_78 (by decide +kernel) ?_
        refine j_iload_n C dX5_layRest_80 rfl ?_
        refine j_iconst C dX5_layRest_81 ?_
        refine j_iload C dX5_layRest_82 rfl ?_
        refine j_ishl C dX5_layRest_84 (b_shl k (by omega)) ?_
        refine j_ior C dX5_layRest_85 (b_or s (by omega) k (by omega)) ?_
        refine j_imul C dX5_layRest_86 ?_
        refine j_iload C dX5_layRest_87 rfl ?_
        refine j_iadd C dX5_layRest_89 ?_
        refine j_iaload C rfl (by decide) dX5_layRest_90 (by first | omega | (refine ⟨?_, ?_⟩ <;> omega) | exact hw _ _ | exact nrm_R _) (by first | omega | (refine ⟨?_, ?_⟩ <;> omega) | exact hw _ _ | exact nrm_R _) ?_
        refine j_iadd C dX5_layRest_91 ?_
        rw [ev]
        refine j_goto C (tgt := 96) dX5_layRest_92 (by decide) ?_
        refine j_istore C dX5_layRest_96 (Nat.le_of_ble_eq_true rfl) ?_
        dsimp only [List.set]
        refine j_iload C dX5_layRest_98 rfl ?_
        refine j_if_lt C (tgt := 118) dX5_layRest_100 (by decide) (by first | omega | (refine ⟨?_, ?_⟩ <;> omega) | exact hw _ _ | exact nrm_R _) (fun c_100 => ?_) (fun c_100 => ?_)
        · refine j_iload_n C dX5_layRest_118 rfl ?_
          refine j_istore_n C dX5_layRest_119 (Nat.le_of_ble_eq_true rfl) ?_
          dsimp only [List.set]
          refine j_iinc C dX5_layRest_120 rfl ?_
          dsimp only [List.set]
          refine j_goto C (tgt := 44) dX5_layRest_123 (by decide) ?_
          first
          | (exfalso; omega)
          | (refine j_cast (ih _ (by omega) (k + 1) b _ rfl (by omega) hb0 hb1 (mnI_skip (by unfold tb; omega) hI)) rfl rfl rfl)
          | (refine j_cast (ih _ (by omega) (k + 1) (vM (g 33) f s a k) _ rfl (by omega) (by omega) (by omega) (mnI_take hnf hnt hvb.1 (by omega) hI)) rfl rfl rfl)
          | (refine j_cast (ih _ (by omega) (k + 1) b _ rfl (by omega) hb0 hb1 (mnI_keep hnf (by omega) (by omega) hI)) rfl rfl rfl)
        · refine j_iload_n C dX5_layRest_103 rfl ?_
          refine j_if_lt C (tgt := 113) dX5_layRest_104 (by decide) (by first | omega | (refine ⟨?_, ?_⟩ <;> omega) | exact hw _ _ | exact nrm_R _) (fun c_104 => ?_) (fun c_104 => ?_)
          · refine j_iload C dX5_layRest_113 rfl ?_
            refine j_goto C (tgt := 119) dX5_layRest_115 (by decide) ?_
            refine j_istore_n C dX5_layRest_119 (Nat.le_of_ble_eq_true rfl) ?_
            dsimp only [List.set]
            refine j_iinc C dX5_layRest_120 rfl ?_
            dsimp only [List.set]
            refine j_goto C (tgt := 44) dX5_layRest_123 (by decide) ?_
            first
            | (exfalso; omega)
            | (refine j_cast (ih _ (by omega) (k + 1) b _ rfl (by omega) hb0 hb1 (mnI_skip (by unfold tb; omega) hI)) rfl rfl rfl)
            | (refine j_cast (ih _ (by omega) (k + 1) (vM (g 33) f s a k) _ rfl (by omega) (by omega) (by omega) (mnI_take hnf hnt hvb.1 (by omega) hI)) rfl rfl rfl)
            | (refine j_cast (ih _ (by omega) (k + 1) b _ rfl (by omega) hb0 hb1 (mnI_keep hnf (by omega) (by omega) hI)) rfl rfl rfl)
          · refine j_iload C dX5_layRest_107 rfl ?_
            refine j_iload_n C dX5_layRest_109 rfl ?_
            refine j_icmp_ge C (tgt := 118) dX5_layRest_110 (by decide) (by first | omega | (refine ⟨?_, ?_⟩ <;> omega) | exact hw _ _ | exact nrm_R _) (by first | omega | (refine ⟨?_, ?_⟩ <;> omega) | exact hw _ _ | exact nrm_R _) (fun c_110 => ?_) (fun c_110 => ?_)
            · refine j_iload_n C dX5_layRest_118 rfl ?_
              refine j_istore_n C dX5_layRest_119 (Nat.le_of_ble_eq_true rfl) ?_
              dsimp only [List.set]
              refine j_iinc C dX5_layRest_120 rfl ?_
              dsimp only [List.set]
              refine j_goto C (tgt := 44) dX5_layRest_123 (by decide) ?_
              first
              | (exfalso; omega)
              | (refine j_cast (ih _ (by omega) (k + 1) b _ rfl (by omega) hb0 hb1 (mnI_skip (by unfold tb; omega) hI)) rfl rfl rfl)
              | (refine j_cast (ih _ (by omega) (k + 1) (vM (g 33) f s a k) _ rfl (by omega) (by omega) (by omega) (mnI_take hnf hnt hvb.1 (by omega) hI)) rfl rfl rfl)
              | (refine j_cast (ih _ (by omega) (k + 1) b _ rfl (by omega) hb0 hb1 (mnI_keep hnf (by omega) (by omega) hI)) rfl rfl rfl)
            · refine j_iload C dX5_layRest_113 rfl ?_
              refine j_goto C (tgt := 119) dX5_layRest_115 (by decide) ?_
              refine j_istore_n C dX5_layRest_119 (Nat.le_of_ble_eq_true rfl) ?_
              dsimp only [List.set]
              refine j_iinc C dX5_layRest_120 rfl ?_
              dsimp only [List.set]
              refine j_goto C (tgt := 44) dX5_layRest_123 (by decide) ?_
              first
              | (exfalso; omega)
              | (refine j_cast (ih _ (by omega) (k + 1) b _ rfl (by omega) hb0 hb1 (mnI_skip (by unfold tb; omega) hI)) rfl rfl rfl)
              | (refine j_cast (ih _ (by omega) (k + 1) (vM (g 33) f s a k) _ rfl (by omega) (by omega) (by omega) (mnI_take hnf hnt hvb.1 (by omega) hI)) rfl rfl rfl)
              | (refine j_cast (ih _ (by omega) (k + 1) b _ rfl (by omega) hb0 hb1 (mnI_keep hnf (by omega) (by omega) hI)) rfl rfl rfl)
  have mid : ∀ (s : Nat), 0 < s → s < 2 ^ (g 21 18).toNat → (∀ (f : Nat → Int) (l2 l3 l4 l5 : Option AV), prtM (g 21 18).toNat (g 33) f s (g 21 18).toNat → J q ShW 0 0 144 [some (.inr 21), some (.inl (s : Int)), l2, l3, l4, l5] [] (row g 37 f)) → ∀ n : Nat, ∀ (a : Nat) (f : Nat → Int) (l3 l4 l5 : Option AV), (g 21 18).toNat - a = n → a ≤ (g 21 18).toNat → prtM (g 21 18).toNat (g 33) f s a → J q ShW 0 0 15 [some (.inr 21), some (.inl (s : Int)), some (.inl (a : Int)), l3, l4, l5] [] (row g 37 f) := by
    intro s hs0 hs kk
    refine byN _ (fun n ih a f l3 l4 l5 hn ha hp => ?_)
    have e18 : (row g 37 f) 21 18 = g 21 18 := rfl
    have eix : (9 * (s : Int) + (a : Int)).toNat = 9 * s + a := by omega
    refine j_iload_n C dX5_layRest_15 rfl ?_
    refine j_aload_n C dX5_layRest_16 rfl ?_
    refine j_getI C fX5_layRest_133 rfl rfl dX5_layRest_17 ?_
    rw [e18]
    refine j_icmp_ge C (tgt := 144) dX5_layRest_20 (by decide) (by first | omega | (refine ⟨?_, ?_⟩ <;> omega) | exact hw _ _ | exact nrm_R _) (by first | omega | (refine ⟨?_, ?_⟩ <;> omega) | exact hw _ _ | exact nrm_R _) (fun c_20 => ?_) (fun c_20 => ?_)
    · refine kk f _ _ _ _ ?_
      rw [show (g 21 18).toNat = a by omega]
      rw [show (g 21 18).toNat = a by omega] at hp
      exact hp
    · refine j_iload_n C dX5_layRest_23 rfl ?_
      refine j_iconst C dX5_layRest_24 ?_
      refine j_aload_n C dX5_layRest_25 rfl ?_
      refine j_getI C fX5_layRest_133 rfl rfl dX5_layRest_26 ?_
      rw [e18]
      refine j_ishl C dX5_layRest_29 (es) ?_
      refine j_iconst C dX5_layRest_30 ?_
      refine j_isub C dX5_layRest_31 ?_
      refine j_icmp_ne C (tgt := 39) dX5_layRest_32 (by decide) (by first | omega | (refine ⟨?_, ?_⟩ <;> omega) | exact hw _ _ | exact nrm_R _) (by first | omega | (refine ⟨?_, ?_⟩ <;> omega) | exact hw _ _ | exact nrm_R _) (fun c_32 => ?_) (fun c_32 => ?_)
      · refine j_iconst C dX5_layRest_39 ?_
        refine j_istore_n C dX5_layRest_40 (Nat.le_of_ble_eq_true rfl) ?_
        dsimp only [List.set]
        refine j_iconst C dX5_layRest_41 ?_
        refine j_istore C dX5_layRest_42 (Nat.le_of_ble_eq_true rfl) ?_
        dsimp only [List.set]
        refine j_cast (inn s a f hs0 hs (by omega) hp (fun b l4 l5 hb => ?_) _ 0 _ l5 rfl (by omega) (by omega) (by omega) ?_) rfl rfl rfl
        · refine j_aload_n C dX5_layRest_126 rfl ?_
          refine j_getR C fX5_layRest_69 rfl rfl dX5_layRest_127 ?_
          refine j_bipush C dX5_layRest_130 (by decide +kernel) ?_
          refine j_iload_n C dX5_layRest_132 rfl ?_
          refine j_imul C dX5_layRest_133 ?_
          refine j_iload_n C dX5_layRest_134 rfl ?_
          refine j_iadd C dX5_layRest_135 ?_
          refine j_iload_n C dX5_layRest_136 rfl ?_
          refine j_iastore C rfl (by decide) dX5_layRest_137 (by first | omega | (refine ⟨?_, ?_⟩ <;> omega) | exact hw _ _ | exact nrm_R _) (by first | omega | (refine ⟨?_, ?_⟩ <;> omega) | exact hw _ _ | exact nrm_R _) (by have := hb.2; have hpp := (pop_b s (by omega)).1; refine ⟨?_, ?_⟩ <;> omega) ?_
          refine j_iinc C dX5_layRest_138 rfl ?_
          dsimp only [List.set]
          refine j_goto C (tgt := 15) dX5_layRest_141 (by decide) ?_
          refine j_cast (ih _ (by omega) (a + 1) (fun j => if j = 9 * s + a then b else f j) _ _ _ rfl (by omega) (prtM_s hc9 hs (by omega) hp hb)) rfl rfl ?_
          rw [eix]
          funext k' j
          by_cases a6 : k' = 37
          · subst a6
            simp [row, aset]
          · simp [row, aset, a6]
        · first
          | exact Or.inl ⟨by omega, rfl⟩
          | exact Or.inr ⟨by omega, Or.inl ⟨rfl, fun h q => by omega⟩⟩
      · refine j_iconst C dX5_layRest_35 ?_
        refine j_goto C (tgt := 40) dX5_layRest_36 (by decide) ?_
        refine j_istore_n C dX5_layRest_40 (Nat.le_of_ble_eq_true rfl) ?_
        dsimp only [List.set]
        refine j_iconst C dX5_layRest_41 ?_
        refine j_istore C dX5_layRest_42 (Nat.le_of_ble_eq_true rfl) ?_
        dsimp only [List.set]
        refine j_cast (inn s a f hs0 hs (by omega) hp (fun b l4 l5 hb => ?_) _ 0 _ l5 rfl (by omega) (by omega) (by omega) ?_) rfl rfl rfl
        · refine j_aload_n C dX5_layRest_126 rfl ?_
          refine j_getR C fX5_layRest_69 rfl rfl dX5_layRest_127 ?_
          refine j_bipush C dX5_layRest_130 (by decide +kernel) ?_
          refine j_iload_n C dX5_layRest_132 rfl ?_
          refine j_imul C dX5_layRest_133 ?_
          refine j_iload_n C dX5_layRest_134 rfl ?_
          refine j_iadd C dX5_layRest_135 ?_
          refine j_iload_n C dX5_layRest_136 rfl ?_
          refine j_iastore C rfl (by decide) dX5_layRest_137 (by first | omega | (refine ⟨?_, ?_⟩ <;> omega) | exact hw _ _ | exact nrm_R _) (by first | omega | (refine ⟨?_, ?_⟩ <;> omega) | exact hw _ _ | exact nrm_R _) (by have := hb.2; have hpp := (pop_b s (by omega)).1; refine ⟨?_, ?_⟩ <;> omega) ?_
          refine j_iinc C dX5_layRest_138 rfl ?_
          dsimp only [List.set]
          refine j_goto C (tgt := 15) dX5_layRest_141 (by decide) ?_
          refine j_cast (ih _ (by omega) (a + 1) (fun j => if j = 9 * s + a then b else f j) _ _ _ rfl (by omega) (prtM_s hc9 hs (by omega) hp hb)) rfl rfl ?_
          rw [eix]
          funext k' j
          by_cases a6 : k' = 37
          · subst a6
            simp [row, aset]
          · simp [row, aset, a6]
        · first
          | exact Or.inl ⟨by omega, rfl⟩
          | exact Or.inr ⟨by omega, Or.inl ⟨rfl, fun h q => by omega⟩⟩
  have lp : ∀ n : Nat, ∀ (s : Nat) (f : Nat → Int) (l2 l3 l4 l5 : Option AV), s = n → s < 2 ^ (g 21 18).toNat → prtM (g 21 18).toNat (g 33) f s 0 → J q ShW 0 0 9 [some (.inr 21), some (.inl (s : Int)), l2, l3, l4, l5] [] (row g 37 f) := by
    refine byN _ (fun n ih s f l2 l3 l4 l5 hn hs hp => ?_)
    refine j_iload_n C dX5_layRest_9 rfl ?_
    refine j_if_le C (tgt := 150) dX5_layRest_10 (by decide) (by first | omega | (refine ⟨?_, ?_⟩ <;> omega) | exact hw _ _ | exact nrm_R _) (fun c_10 => ?_) (fun c_10 => ?_)
    · refine j_vretV C dX5_layRest_150 (fun hw9 => ?_)
      exact ⟨f, fun s2 q1 q2 a2 q3 => hp s2 a2 (Or.inl (by omega)) q2 q3, rfl⟩
    · refine j_iconst C dX5_layRest_13 ?_
      refine j_istore_n C dX5_layRest_14 (Nat.le_of_ble_eq_true rfl) ?_
      dsimp only [List.set]
      refine mid s (by omega) hs (fun f l2 l3 l4 l5 hp => ?_) _ 0 f l3 l4 l5 rfl (by omega) hp
      refine j_iinc C dX5_layRest_144 rfl ?_
      dsimp only [List.set]
      refine j_goto C (tgt := 9) dX5_layRest_147 (by decide) ?_
      refine j_cast (ih (s - 1) (by omega) (s - 1) f l2 l3 l4 l5 rfl (by omega) ?_) ?_ rfl rfl
      · have e9 : s = (s - 1) + 1 := by omega
        rw [e9] at hp
        exact prtM_c hp
      · rw [show (((s - 1 : Nat)) : Int) = (s : Int) + -1 by omega]
  refine j_iconst C dX5_layRest_0 ?_
  refine j_aload_n C dX5_layRest_1 rfl ?_
  refine j_getI C fX5_layRest_133 rfl rfl dX5_layRest_2 ?_
  refine j_ishl C dX5_layRest_5 (es) ?_
  refine j_iconst C dX5_layRest_6 ?_
  refine j_isub C dX5_layRest_7 ?_
  refine j_istore_n C dX5_layRest_8 (Nat.le_of_ble_eq_true rfl) ?_
  dsimp only [List.set]
  refine j_cast (lp _ (2 ^ (g 21 18).toNat - 1) (g 37) none none none none rfl (by omega) (fun s2 a2 q1 q2 q3 => by omega)) ?_ rfl ?_
  · rw [show ((2 ^ (g 21 18).toNat - 1 : Nat) : Int) = ((2 ^ (g 21 18).toNat : Nat) : Int) - 1 by omega]
  · rw [row_id]
set_option maxHeartbeats 4000000 in
set_option maxRecDepth 100000 in
theorem ct_X5_tour {p : Int} {g : AG} (h : GM g ∧ aR p) : MetI yX5_tour wsX5_tour rmX5_tour ShW [.inr 21, .inl p] g (fun x g' => (¬ (0 ≤ p ∧ p ≤ g 21 18 - 1) ∧ x = -1 ∧ g' = g) ∨ ((0 ≤ p ∧ p ≤ g 21 18 - 1) ∧ ∃ f : Nat → Int, tabM (g 21 18).toNat (g 33) f ∧ x = f (9 * 2 ^ p.toNat + p.toNat) ∧ g' = row g 37 f)) := by
  refine metI_of (cc := cX5_tour) (nL := 2) false (by decide +kernel) rfl (Nat.le_of_ble_eq_true rfl) (fun q J C => ?_)
  show J q ShW 0 0 0 [some (.inr 21), some (.inl p)] [] g
  refine j_wf C (fun hw => ?_)
  obtain ⟨hG, hp⟩ := h
  have hc := hG.1
  refine j_aload_n C dX5_tour_0 rfl ?_
  refine j_iload_n C dX5_tour_1 rfl ?_
  refine j_callVi1 C vX5_tour_136 rfl rfl (Nat.le_of_ble_eq_true rfl) ⟨Nat.zero_le _, Nat.zero_le _⟩ dX5_tour_2 (ct_X5_isGrade ⟨hp, hc.1, hc.2⟩) (fun x_2 g_2 hk_2 => ?_)
  obtain ⟨e_2, hb_2, hi_2⟩ := hk_2
  have e_2 := e_2.symm
  subst e_2
  refine j_if_ne C (tgt := 10) dX5_tour_5 (by decide) (by first | omega | (refine ⟨?_, ?_⟩ <;> omega) | exact hw _ _ | exact nrm_R _) (fun c_5 => ?_) (fun c_5 => ?_)
  · obtain ⟨a, rfl⟩ : ∃ a : Nat, p = (a : Int) := ⟨p.toNat, by omega⟩
    have h5 := ful_clr (g 21 18).toNat (by omega) a (by omega)
    have h6 := two_b (g 21 18).toNat (by omega)
    refine j_aload_n C dX5_tour_10 rfl ?_
    refine j_callVv0 C vX5_tour_139 rfl rfl (Nat.le_of_ble_eq_true rfl) ⟨Nat.zero_le _, Nat.zero_le _⟩ dX5_tour_11 (ct_X5_layRest hG) (fun g_11 hk_11 => ?_)
    obtain ⟨f, hf, rfl⟩ := hk_11
    refine j_aload_n C dX5_tour_14 rfl ?_
    refine j_getR C fX5_tour_69 rfl rfl dX5_tour_15 ?_
    refine j_bipush C dX5_tour_18 (by decide +kernel) ?_
    refine j_iconst C dX5_tour_20 ?_
    refine j_iload_n C dX5_tour_21 rfl ?_
    refine j_ishl C dX5_tour_22 (b_shl a (by omega)) ?_
    refine j_imul C dX5_tour_23 ?_
    refine j_iload_n C dX5_tour_24 rfl ?_
    refine j_iadd C dX5_tour_25 ?_
    refine j_iaload C rfl (by decide) dX5_tour_26 (by first | omega | (refine ⟨?_, ?_⟩ <;> omega) | exact hw _ _ | exact nrm_R _) (by first | omega | (refine ⟨?_, ?_⟩ <;> omega) | exact hw _ _ | exact nrm_R _) ?_
    refine j_iretI C dX5_tour_27 (by intro h; cases h) (fun hw9 => ?_)
    refine Or.inr ⟨by omega, f, hf, ?_, rfl⟩
    rw [row_s, show (9 * ((2 ^ a : Nat) : Int) + (a : Int)).toNat = 9 * 2 ^ a + a by omega]
    rfl
  · refine j_iconst C dX5_tour_8 ?_
    refine j_iretI C dX5_tour_9 (by intro h; cases h) (fun hw9 => ?_)
    exact Or.inl ⟨by omega, rfl, rfl⟩
set_option maxRecDepth 100000 in
theorem pop_two : ∀ j : Nat, j < 9 → 0 < 2 ^ j ∧ pop (2 ^ j) = 0 + 1 := by decide +kernel
set_option maxHeartbeats 4000000 in
set_option maxRecDepth 100000 in
theorem ct_X5_tourAt {p i : Int} {g : AG} (h : GM g ∧ aR p ∧ aR i) : MetI yX5_tourAt wsX5_tourAt rmX5_tourAt ShW [.inr 21, .inl p, .inl i] g (fun x g' => (¬ (0 ≤ p ∧ p ≤ g 21 18 - 1) ∧ x = -1 ∧ g' = g) ∨ ((0 ≤ p ∧ p ≤ g 21 18 - 1) ∧ ¬ (0 ≤ i ∧ i ≤ g 21 18 - 1) ∧ x = -6 ∧ g' = g) ∨ ((0 ≤ p ∧ p ≤ g 21 18 - 1) ∧ (0 ≤ i ∧ i ≤ g 21 18 - 1) ∧ ∃ f : Nat → Int, tabM (g 21 18).toNat (g 33) f ∧ x = (((trM (g 21 18).toNat (g 33) f (2 ^ p.toNat) p.toNat i.toNat).2 : Nat) : Int) ∧ g' = row g 37 f)) := by
  refine metI_of (cc := cX5_tourAt) (nL := 7) false (by decide +kernel) rfl (Nat.le_of_ble_eq_true rfl) (fun q J C => ?_)
  show J q ShW 0 0 0 [some (.inr 21), some (.inl p), some (.inl i), none, none, none, none] [] g
  refine j_wf C (fun hw => ?_)
  obtain ⟨hG, hp, hi⟩ := h
  have hc := hG.1
  have hco := hG.2
  have h4 := two_b (g 21 18).toNat (by omega)
  have hc9 : (g 21 18).toNat < 10 := by omega
  have wh : ∀ (f : Nat → Int) (a0 i0 k : Nat) (s a : Nat), tabM (g 21 18).toNat (g 33) f → 0 < s → s < 2 ^ (g 21 18).toNat → a < (g 21 18).toNat → ∀ hs : Nat, hs < (g 21 18).toNat → ¬ tb s hs → vM (g 33) f s a hs = f (9 * s + a) → (∀ h : Nat, stepM (g 21 18).toNat (g 33) f s a h → J q ShW 0 0 112 [some (.inr 21), some (.inl (a0 : Int)), some (.inl (i0 : Int)), some (.inl (s : Int)), some (.inl (a : Int)), some (.inl (k : Int)), some (.inl (h : Int))] [] (row g 37 f)) → ∀ n : Nat, ∀ h : Nat, hs - h = n → h ≤ hs → (∀ k, k < h → ¬ tb s k → vM (g 33) f s a k ≠ f (9 * s + a)) → J q ShW 0 0 50 [some (.inr 21), some (.inl (a0 : Int)), some (.inl (i0 : Int)), some (.inl (s : Int)), some (.inl (a : Int)), some (.inl (k : Int)), some (.inl (h : Int))] [] (row g 37 f) := by
    intro f a0 i0 k s a hf hs0 hs ha hh hh1 hh2 hh3 kk
    refine byN _ (fun n ih h hn hle hno => ?_)
    have hd2 : s / 2 ^ h < 512 := Nat.lt_of_le_of_lt (Nat.div_le_self _ _) (by omega)
    have hra := (hf s hs0 hs a ha).2
    have hpp := (pop_b s (by omega)).1
    have hst := sto_lt (g 21 18).toNat hc9 s hs h (by omega)
    refine j_iload_n C dX5_tourAt_50 rfl ?_
    refine j_iload C dX5_tourAt_51 rfl ?_
    refine j_ishr C dX5_tourAt_53 (b_shr s (by omega) h (by omega)) ?_
    refine j_iconst C dX5_tourAt_54 ?_
    refine j_iand C dX5_tourAt_55 (b_one _ hd2) ?_
    refine j_iconst C dX5_tourAt_56 ?_
    refine j_icmp_eq C (tgt := 106) dX5_tourAt_57 (by decide) (by first | omega | (refine ⟨?_, ?_⟩ <;> omega) | exact hw _ _ | exact nrm_R _) (by first | omega | (refine ⟨?_, ?_⟩ <;> omega) | exact hw _ _ | exact nrm_R _) (fun c_57 => ?_) (fun c_57 => ?_)
    · have hlt : h < hh := by
        rcases Nat.lt_or_ge h hh with q | q
        · exact q
        · have e9 : h = hh := by omega
          subst e9
          exfalso
          first
          | exact hh2 (by unfold tb; omega)
          | exact c_103 hh3
      refine j_iinc C dX5_tourAt_106 rfl ?_
      dsimp only [List.set]
      refine j_goto C (tgt := 50) dX5_tourAt_109 (by decide) ?_
      refine j_cast (ih _ (by omega) (h + 1) rfl (by omega) (fun k q1 q2 => ?_)) rfl rfl rfl
      by_cases e : k = h
      · subst e
        first
        | exact absurd (show tb s k by unfold tb; omega) q2
        | exact c_103
      · exact hno k (by omega) q2
    · have hnt : ¬ tb s h := by unfold tb; omega
      have hsp := sto_pop s (by omega) h (by omega) hnt
      have hrb := (hf (sto s h) (by omega) hst h (by omega)).2
      have hcb := hco (9 * a + h)
      have hvb : 0 ≤ vM (g 33) f s a h ∧ vM (g 33) f s a h ≤ 10000 := by unfold vM; omega
      have ev : (row g 37 f) 33 (9 * (a : Int) + (h : Int)).toNat + (row g 37 f) 37 (9 * ((sto s h : Nat) : Int) + (h : Int)).toNat = vM (g 33) f s a h := by
        rw [show (9 * (a : Int) + (h : Int)).toNat = 9 * a + h by omega, show (9 * ((sto s h : Nat) : Int) + (h : Int)).toNat = 9 * sto s h + h by omega]
        rfl
      have er : (row g 37 f) 37 (9 * (s : Int) + (a : Int)).toNat = f (9 * s + a) := by
        rw [show (9 * (s : Int) + (a : Int)).toNat = 9 * s + a by omega]
        rfl
      refine j_aload_n C dX5_tourAt_60 rfl ?_
      refine j_getR C fX5_tourAt_57 rfl rfl dX5_tourAt_61 ?_
      refine j_bipush C dX5_tourAt_64 (by decide +kernel) ?_
      refine j_iload C dX5_tourAt_66 rfl ?_
      refine j_imul C dX5_tourAt_68 ?_
      refine j_iload C dX5_tourAt_69 rfl ?_
      refine j_iadd C dX5_tourAt_71 ?_
      refine j_iaload C rfl (by decide) dX5_tourAt_72 (by first | omega | (refine ⟨?_, ?_⟩ <;> omega) | exact hw _ _ | exact nrm_R _) (by first | omega | (refine ⟨?_, ?_⟩ <;> omega) | exact hw _ _ | exact nrm_R _) ?_
      refine j_aload_n C dX5_tourAt_73 rfl ?_
      refine j_getR C fX5_tourAt_69 rfl rfl dX5_tourAt_74 ?_
      refine j_bipush C dX5_tourAt_77 (by decide +kernel) ?_
      refine j_iload_n C dX5_tourAt_79 rfl ?_
      refine j_iconst C dX5_tourAt_80 ?_
      refine j_iload C dX5_tourAt_81 rfl ?_
      refine j_ishl C dX5_tourAt_83 (b_shl h (by omega)) ?_
      refine j_ior C dX5_tourAt_84 (b_or s (by omega) h (by omega)) ?_
      refine j_imul C dX5_tourAt_85 ?_
      refine j_iload C dX5_tourAt_86 rfl ?_
      refine j_iadd C dX5_tourAt_88 ?_
      refine j_iaload C rfl (by decide) dX5_tourAt_89 (by first | omega | (refine ⟨?_, ?_⟩ <;> omega) | exact hw _ _ | exact nrm_R _) (by first | omega | (refine ⟨?_, ?_⟩ <;> omega) | exact hw _ _ | exact nrm_R _) ?_
      refine j_iadd C dX5_tourAt_90 ?_
      rw [ev]
      refine j_aload_n C dX5_tourAt_91 rfl ?_
      refine j_getR C fX5_tourAt_69 rfl rfl dX5_tourAt_92 ?_
      refine j_bipush C dX5_tourAt_95 (by decide +kernel) ?_
      refine j_iload_n C dX5_tourAt_97 rfl ?_
      refine j_imul C dX5_tourAt_98 ?_
      refine j_iload C dX5_tourAt_99 rfl ?_
      refine j_iadd C dX5_tourAt_101 ?_
      refine j_iaload C rfl (by decide) dX5_tourAt_102 (by first | omega | (refine ⟨?_, ?_⟩ <;> omega) | exact hw _ _ | exact nrm_R _) (by first | omega | (refine ⟨?_, ?_⟩ <;> omega) | exact hw _ _ | exact nrm_R _) ?_
      rw [er]
      refine j_icmp_eq C (tgt := 112) dX5_tourAt_103 (by decide) (by first | omega | (refine ⟨?_, ?_⟩ <;> omega) | exact hw _ _ | exact nrm_R _) (by first | omega | (refine ⟨?_, ?_⟩ <;> omega) | exact hw _ _ | exact nrm_R _) (fun c_103 => ?_) (fun c_103 => ?_)
      · exact kk h ⟨by omega, hnt, c_103, hno⟩
      · have hlt : h < hh := by
          rcases Nat.lt_or_ge h hh with q | q
          · exact q
          · have e9 : h = hh := by omega
            subst e9
            exfalso
            first
            | exact hh2 (by unfold tb; omega)
            | exact c_103 hh3
        refine j_iinc C dX5_tourAt_106 rfl ?_
        dsimp only [List.set]
        refine j_goto C (tgt := 50) dX5_tourAt_109 (by decide) ?_
        refine j_cast (ih _ (by omega) (h + 1) rfl (by omega) (fun k q1 q2 => ?_)) rfl rfl rfl
        by_cases e : k = h
        · subst e
          first
          | exact absurd (show tb s k by unfold tb; omega) q2
          | exact c_103
        · exact hno k (by omega) q2
  have lp : ∀ (f : Nat → Int) (a0 i0 : Nat), tabM (g 21 18).toNat (g 33) f → a0 < (g 21 18).toNat → i0 < (g 21 18).toNat → p = (a0 : Int) → i = (i0 : Int) → ∀ n : Nat, ∀ (k s a : Nat) (l6 : Option AV), i0 - k = n → k ≤ i0 → trM (g 21 18).toNat (g 33) f (2 ^ a0) a0 k = (s, a) → 0 < s → s < 2 ^ (g 21 18).toNat → a < (g 21 18).toNat → pop s = k + 1 → J q ShW 0 0 41 [some (.inr 21), some (.inl (a0 : Int)), some (.inl (i0 : Int)), some (.inl (s : Int)), some (.inl (a : Int)), some (.inl (k : Int)), l6] [] (row g 37 f) := by
    intro f a0 i0 hf ha0 hi0 ep ei
    refine byN _ (fun n ih k s a l6 hn hk hT hs0 hs ha hpop => ?_)
    refine j_iload C dX5_tourAt_41 rfl ?_
    refine j_iload_n C dX5_tourAt_43 rfl ?_
    refine j_icmp_ge C (tgt := 129) dX5_tourAt_44 (by decide) (by first | omega | (refine ⟨?_, ?_⟩ <;> omega) | exact hw _ _ | exact nrm_R _) (by first | omega | (refine ⟨?_, ?_⟩ <;> omega) | exact hw _ _ | exact nrm_R _) (fun c_44 => ?_) (fun c_44 => ?_)
    · refine j_iload C dX5_tourAt_129 rfl ?_
      refine j_iretI C dX5_tourAt_131 (by intro h; cases h) (fun hw9 => ?_)
      refine Or.inr (Or.inr ⟨by omega, by omega, f, hf, ?_, rfl⟩)
      rw [ep, ei]
      show (a : Int) = (((trM (g 21 18).toNat (g 33) f (2 ^ a0) a0 i0).2 : Nat) : Int)
      rw [show i0 = k by omega, hT]
    · refine j_iconst C dX5_tourAt_47 ?_
      refine j_istore C dX5_tourAt_48 (Nat.le_of_ble_eq_true rfl) ?_
      dsimp only [List.set]
      have hnf : s ≠ 2 ^ (g 21 18).toNat - 1 := by
        intro z
        have := (ful_pop (g 21 18).toNat hc9).1
        rw [← z] at this
        omega
      obtain ⟨-, hs', q1, q2, q3⟩ := (hf s hs0 hs a ha).1.2 hnf
      refine wh f a0 i0 k s a hf hs0 hs ha hs' q1 q2 q3.symm (fun h hh => ?_) _ 0 rfl (by omega) (fun k q => by omega)
      refine j_iload_n C dX5_tourAt_112 rfl ?_
      refine j_iconst C dX5_tourAt_113 ?_
      refine j_iload C dX5_tourAt_114 rfl ?_
      refine j_ishl C dX5_tourAt_116 (b_shl h (by have := hh.1; omega)) ?_
      refine j_ior C dX5_tourAt_117 (b_or s (by omega) h (by have := hh.1; omega)) ?_
      refine j_istore_n C dX5_tourAt_118 (Nat.le_of_ble_eq_true rfl) ?_
      dsimp only [List.set]
      refine j_iload C dX5_tourAt_119 rfl ?_
      refine j_istore C dX5_tourAt_121 (Nat.le_of_ble_eq_true rfl) ?_
      dsimp only [List.set]
      refine j_iinc C dX5_tourAt_123 rfl ?_
      dsimp only [List.set]
      refine j_goto C (tgt := 41) dX5_tourAt_126 (by decide) ?_
      have h9 := hh.1
      have hsp := sto_pop s (by omega) h (by omega) hh.2.1
      refine j_cast (ih _ (by omega) (k + 1) (sto s h) h _ rfl (by omega) ?_ (by omega) (sto_lt (g 21 18).toNat hc9 s hs h h9) h9 (by omega)) rfl rfl rfl
      rw [trM, hT]
      dsimp only
      rw [nxM_e hh]
  refine j_aload_n C dX5_tourAt_0 rfl ?_
  refine j_iload_n C dX5_tourAt_1 rfl ?_
  refine j_callVi1 C vX5_tourAt_136 rfl rfl (Nat.le_of_ble_eq_true rfl) ⟨Nat.zero_le _, Nat.zero_le _⟩ dX5_tourAt_2 (ct_X5_isGrade ⟨hp, hc.1, hc.2⟩) (fun x_2 g_2 hk_2 => ?_)
  obtain ⟨e_2, hb_2, hi_2⟩ := hk_2
  have e_2 := e_2.symm
  subst e_2
  refine j_if_ne C (tgt := 10) dX5_tourAt_5 (by decide) (by first | omega | (refine ⟨?_, ?_⟩ <;> omega) | exact hw _ _ | exact nrm_R _) (fun c_5 => ?_) (fun c_5 => ?_)
  · obtain ⟨a, ea⟩ : ∃ a : Nat, p = (a : Int) := ⟨p.toNat, by omega⟩
    refine j_iload_n C dX5_tourAt_10 rfl ?_
    refine j_iconst C dX5_tourAt_11 ?_
    refine j_aload_n C dX5_tourAt_12 rfl ?_
    refine j_getI C fX5_tourAt_133 rfl rfl dX5_tourAt_13 ?_
    refine j_iconst C dX5_tourAt_16 ?_
    refine j_isub C dX5_tourAt_17 ?_
    refine j_callSi3 C vX5_tourAt_75 rfl (Nat.le_of_ble_eq_true rfl) ⟨Nat.zero_le _, Nat.zero_le _⟩ dX5_tourAt_18 (ct_X5_in ⟨hi, ⟨by omega, by omega⟩, ⟨by omega, by omega⟩⟩) (fun x_18 g_18 hk_18 => ?_)
    obtain ⟨e_18, hb_18, hi_18⟩ := hk_18
    have e_18 := e_18.symm
    subst e_18
    refine j_if_ne C (tgt := 27) dX5_tourAt_21 (by decide) (by first | omega | (refine ⟨?_, ?_⟩ <;> omega) | exact hw _ _ | exact nrm_R _) (fun c_21 => ?_) (fun c_21 => ?_)
    · obtain ⟨b, eb⟩ : ∃ b : Nat, i = (b : Int) := ⟨i.toNat, by omega⟩
      have h5 := ful_clr (g 21 18).toNat (by omega) a (by omega)
      subst ea
      subst eb
      refine j_aload_n C dX5_tourAt_27 rfl ?_
      refine j_callVv0 C vX5_tourAt_139 rfl rfl (Nat.le_of_ble_eq_true rfl) ⟨Nat.zero_le _, Nat.zero_le _⟩ dX5_tourAt_28 (ct_X5_layRest hG) (fun g_28 hk_28 => ?_)
      obtain ⟨f, hf, rfl⟩ := hk_28
      refine j_iconst C dX5_tourAt_31 ?_
      refine j_iload_n C dX5_tourAt_32 rfl ?_
      refine j_ishl C dX5_tourAt_33 (b_shl a (by omega)) ?_
      refine j_istore_n C dX5_tourAt_34 (Nat.le_of_ble_eq_true rfl) ?_
      dsimp only [List.set]
      refine j_iload_n C dX5_tourAt_35 rfl ?_
      refine j_istore C dX5_tourAt_36 (Nat.le_of_ble_eq_true rfl) ?_
      dsimp only [List.set]
      refine j_iconst C dX5_tourAt_38 ?_
      refine j_istore C dX5_tourAt_39 (Nat.le_of_ble_eq_true rfl) ?_
      dsimp only [List.set]
      have h7 := pop_two a (by omega)
      refine j_cast (lp f a b hf (by omega) (by omega) rfl rfl _ 0 (2 ^ a) a none rfl (by omega) rfl h7.1 h5.2.2.2.2 (by omega) h7.2) rfl rfl rfl
    · refine j_bipush C dX5_tourAt_24 (by decide +kernel) ?_
      refine j_iretI C dX5_tourAt_26 (by intro h; cases h) (fun hw9 => ?_)
      exact Or.inr (Or.inl ⟨by omega, by omega, rfl, rfl⟩)
  · refine j_iconst C dX5_tourAt_8 ?_
    refine j_iretI C dX5_tourAt_9 (by intro h; cases h) (fun hw9 => ?_)
    exact Or.inl ⟨by omega, rfl, rfl⟩
