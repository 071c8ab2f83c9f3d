set_option maxHeartbeats 4000000 in
set_option maxRecDepth 100000 in
theorem ct_X5_isPlace {p : Int} {g : AG} (h : aR p ∧ 2 ≤ g 21 0 ∧ g 21 0 ≤ 24) : MetI yX5_isPlace wsX5_isPlace rmX5_isPlace ShW [.inr 21, .inl p] g (fun x g' => g' = g ∧ (x = 0 ∨ x = 1) ∧ (x = 1 ↔ 0 ≤ p ∧ p ≤ g 21 0 - 1)) := by
  refine metI_of (cc := cX5_isPlace) (nL := 2) true (by decide +kernel) rfl (Nat.le_of_ble_eq_true rfl) (fun q J C => ?_)
  show J q ShW 0 0 0 [some (.inr 21), some (.inl p)] [] g
  refine j_wf C (fun hw => ?_)
  obtain ⟨h1, h2, h3⟩ := h
  refine j_iload_n C dX5_isPlace_0 rfl ?_
  refine j_iconst C dX5_isPlace_1 ?_
  refine j_aload_n C dX5_isPlace_2 rfl ?_
  refine j_getI C fX5_isPlace_7 rfl rfl dX5_isPlace_3 ?_
  refine j_iconst C dX5_isPlace_6 ?_
  refine j_isub C dX5_isPlace_7 ?_
  refine j_callSi3 C vX5_isPlace_75 rfl (Nat.le_of_ble_eq_true rfl) ⟨Nat.zero_le _, Nat.zero_le _⟩ dX5_isPlace_8 (ct_X5_in ⟨h1, ⟨by omega, by omega⟩, ⟨by omega, by omega⟩⟩) (fun x_8 g_8 hk_8 => ?_)
  obtain ⟨e_8, hb_8, hi_8⟩ := hk_8
  have e_8 := e_8.symm
  subst e_8
  refine j_iretI C dX5_isPlace_11 (fun _ => by first | exact Or.inl rfl | exact Or.inr rfl | assumption | omega) (fun hw9 => ?_)
  exact ⟨rfl, hb_8, hi_8⟩
set_option maxHeartbeats 4000000 in
set_option maxRecDepth 100000 in
theorem ct_X5_isGrade {p : Int} {g : AG} (h : aR p ∧ 0 ≤ g 21 18 ∧ g 21 18 ≤ 9) : MetI yX5_isGrade wsX5_isGrade rmX5_isGrade ShW [.inr 21, .inl p] g (fun x g' => g' = g ∧ (x = 0 ∨ x = 1) ∧ (x = 1 ↔ 0 ≤ p ∧ p ≤ g 21 18 - 1)) := by
  refine metI_of (cc := cX5_isGrade) (nL := 2) true (by decide +kernel) rfl (Nat.le_of_ble_eq_true rfl) (fun q J C => ?_)
  show J q ShW 0 0 0 [some (.inr 21), some (.inl p)] [] g
  refine j_wf C (fun hw => ?_)
  obtain ⟨h1, h2, h3⟩ := h
  refine j_iload_n C dX5_isGrade_0 rfl ?_
  refine j_iconst C dX5_isGrade_1 ?_
  refine j_aload_n C dX5_isGrade_2 rfl ?_
  refine j_getI C fX5_isGrade_133 rfl rfl dX5_isGrade_3 ?_
  refine j_iconst C dX5_isGrade_6 ?_
  refine j_isub C dX5_isGrade_7 ?_
  refine j_callSi3 C vX5_isGrade_75 rfl (Nat.le_of_ble_eq_true rfl) ⟨Nat.zero_le _, Nat.zero_le _⟩ dX5_isGrade_8 (ct_X5_in ⟨h1, ⟨by omega, by omega⟩, ⟨by omega, by omega⟩⟩) (fun x_8 g_8 hk_8 => ?_)
  obtain ⟨e_8, hb_8, hi_8⟩ := hk_8
  have e_8 := e_8.symm
  subst e_8
  refine j_iretI C dX5_isGrade_11 (fun _ => by first | exact Or.inl rfl | exact Or.inr rfl | assumption | omega) (fun hw9 => ?_)
  exact ⟨rfl, hb_8, hi_8⟩
set_option maxHeartbeats 4000000 in
set_option maxRecDepth 100000 in
theorem ct_X5_isAcross {p : Int} {g : AG} (h : 0 ≤ p ∧ p < 24) : MetI yX5_isAcross wsX5_isAcross rmX5_isAcross ShW [.inr 21, .inl p] g (fun x g' => g' = g ∧ (x = 0 ∨ x = 1) ∧ (x = 1 ↔ g 26 (40 + p).toNat = g 26 40)) := by
  refine metI_of (cc := cX5_isAcross) (nL := 2) true (by decide +kernel) rfl (Nat.le_of_ble_eq_true rfl) (fun q J C => ?_)
  show J q ShW 0 0 0 [some (.inr 21), some (.inl p)] [] g
  refine j_wf C (fun hw => ?_)
  refine j_aload_n C dX5_isAcross_0 rfl ?_
  refine j_getR C fX5_isAcross_27 rfl rfl dX5_isAcross_1 ?_
  refine j_bipush C dX5_isAcross_4 (by decide +kernel) ?_
  refine j_iload_n C dX5_isAcross_6 rfl ?_
  refine j_iadd C dX5_isAcross_7 ?_
  refine j_iaload C rfl (by decide) dX5_isAcross_8 (by first | omega | (refine ⟨?_, ?_⟩ <;> omega) | exact hw _ _ | exact nrm_R _) (by first | omega | (refine ⟨?_, ?_⟩ <;> omega) | exact hw _ _ | exact nrm_R _) ?_
  refine j_aload_n C dX5_isAcross_9 rfl ?_
  refine j_getR C fX5_isAcross_27 rfl rfl dX5_isAcross_10 ?_
  refine j_bipush C dX5_isAcross_13 (by decide +kernel) ?_
  refine j_iaload C rfl (by decide) dX5_isAcross_15 (by first | omega | (refine ⟨?_, ?_⟩ <;> omega) | exact hw _ _ | exact nrm_R _) (by first | omega | (refine ⟨?_, ?_⟩ <;> omega) | exact hw _ _ | exact nrm_R _) ?_
  refine j_icmp_ne C (tgt := 23) dX5_isAcross_16 (by decide) (by first | omega | (refine ⟨?_, ?_⟩ <;> omega) | exact hw _ _ | exact nrm_R _) (by first | omega | (refine ⟨?_, ?_⟩ <;> omega) | exact hw _ _ | exact nrm_R _) (fun c_16 => ?_) (fun c_16 => ?_)
  · refine j_iconst C dX5_isAcross_23 ?_
    refine j_iretI C dX5_isAcross_24 (fun _ => by first | exact Or.inl rfl | exact Or.inr rfl | assumption | omega) (fun hw9 => ?_)
    first | exact ⟨rfl, Or.inr rfl, fun _ => c_16, fun _ => rfl⟩ | exact ⟨rfl, Or.inl rfl, fun h => absurd h (by decide), fun h => absurd h c_16⟩
  · refine j_iconst C dX5_isAcross_19 ?_
    refine j_goto C (tgt := 24) dX5_isAcross_20 (by decide) ?_
    refine j_iretI C dX5_isAcross_24 (fun _ => by first | exact Or.inl rfl | exact Or.inr rfl | assumption | omega) (fun hw9 => ?_)
    first | exact ⟨rfl, Or.inr rfl, fun _ => c_16, fun _ => rfl⟩ | exact ⟨rfl, Or.inl rfl, fun h => absurd h (by decide), fun h => absurd h c_16⟩
set_option maxHeartbeats 4000000 in
set_option maxRecDepth 100000 in
theorem ct_X5_acrossOf {p : Int} {g : AG} (h : 0 ≤ p ∧ p < 24) : MetI yX5_acrossOf wsX5_acrossOf rmX5_acrossOf ShW [.inr 21, .inl p] g (fun x g' => g' = g ∧ x = nrm (g 27 40 - g 27 (40 + p).toNat)) := by
  refine metI_of (cc := cX5_acrossOf) (nL := 2) false (by decide +kernel) rfl (Nat.le_of_ble_eq_true rfl) (fun q J C => ?_)
  show J q ShW 0 0 0 [some (.inr 21), some (.inl p)] [] g
  refine j_wf C (fun hw => ?_)
  refine j_aload_n C dX5_acrossOf_0 rfl ?_
  refine j_getR C fX5_acrossOf_30 rfl rfl dX5_acrossOf_1 ?_
  refine j_bipush C dX5_acrossOf_4 (by decide +kernel) ?_
  refine j_iaload C rfl (by decide) dX5_acrossOf_6 (by first | omega | (refine ⟨?_, ?_⟩ <;> omega) | exact hw _ _ | exact nrm_R _) (by first | omega | (refine ⟨?_, ?_⟩ <;> omega) | exact hw _ _ | exact nrm_R _) ?_
  refine j_aload_n C dX5_acrossOf_7 rfl ?_
  refine j_getR C fX5_acrossOf_30 rfl rfl dX5_acrossOf_8 ?_
  refine j_bipush C dX5_acrossOf_11 (by decide +kernel) ?_
  refine j_iload_n C dX5_acrossOf_13 rfl ?_
  refine j_iadd C dX5_acrossOf_14 ?_
  refine j_iaload C rfl (by decide) dX5_acrossOf_15 (by first | omega | (refine ⟨?_, ?_⟩ <;> omega) | exact hw _ _ | exact nrm_R _) (by first | omega | (refine ⟨?_, ?_⟩ <;> omega) | exact hw _ _ | exact nrm_R _) ?_
  refine j_isub C dX5_acrossOf_16 ?_
  refine j_nrm C ?_
  refine j_iretI C dX5_acrossOf_17 (by intro h; cases h) (fun hw9 => ?_)
  exact ⟨rfl, rfl⟩
set_option maxHeartbeats 4000000 in
set_option maxRecDepth 100000 in
theorem ct_X5_across {p : Int} {g : AG} (h : aR p ∧ 2 ≤ g 21 0 ∧ g 21 0 ≤ 24) : MetI yX5_across wsX5_across rmX5_across ShW [.inr 21, .inl p] g (fun x g' => g' = g ∧ x = rAcross (g 21 0) p (g 26 (40 + p).toNat = g 26 40) (nrm (g 27 40 - g 27 (40 + p).toNat))) := by
  refine metI_of (cc := cX5_across) (nL := 2) false (by decide +kernel) rfl (Nat.le_of_ble_eq_true rfl) (fun q J C => ?_)
  show J q ShW 0 0 0 [some (.inr 21), some (.inl p)] [] g
  refine j_wf C (fun hw => ?_)
  obtain ⟨hp, h2, h3⟩ := h
  refine j_aload_n C dX5_across_0 rfl ?_
  refine j_iload_n C dX5_across_1 rfl ?_
  refine j_callVi1 C vX5_across_85 rfl rfl (Nat.le_of_ble_eq_true rfl) ⟨Nat.zero_le _, Nat.zero_le _⟩ dX5_across_2 (ct_X5_isPlace ⟨hp, by omega, by omega⟩) (fun x_2 g_2 hk_2 => ?_)
  obtain ⟨e_2, hb_2, hi_2⟩ := hk_2
  have e_2 := e_2.symm
  subst e_2
  refine j_if_ne C (tgt := 11) dX5_across_5 (by decide) (by first | omega | (refine ⟨?_, ?_⟩ <;> omega) | exact hw _ _ | exact nrm_R _) (fun c_5 => ?_) (fun c_5 => ?_)
  · refine j_aload_n C dX5_across_11 rfl ?_
    refine j_iload_n C dX5_across_12 rfl ?_
    refine j_callVi1 C vX5_across_91 rfl rfl (Nat.le_of_ble_eq_true rfl) ⟨Nat.zero_le _, Nat.zero_le _⟩ dX5_across_13 (ct_X5_isAcross (by first | omega | (refine ⟨?_, ?_⟩ <;> omega) | exact hw _ _ | exact nrm_R _)) (fun x_13 g_13 hk_13 => ?_)
    obtain ⟨e_13, hb_13, hi_13⟩ := hk_13
    have e_13 := e_13.symm
    subst e_13
    refine j_if_eq C (tgt := 27) dX5_across_16 (by decide) (by first | omega | (refine ⟨?_, ?_⟩ <;> omega) | exact hw _ _ | exact nrm_R _) (fun c_16 => ?_) (fun c_16 => ?_)
    · refine j_ldc C (-1000005) dX5_across_27 kX5_across_98 ?_
      refine j_iretI C dX5_across_29 (by intro h; cases h) (fun hw9 => ?_)
      refine ⟨rfl, ?_⟩
      unfold rAcross
      rw [if_neg (by omega)]
      first
      | (rw [cif_t (hi_13.mp (by omega))]; done)
      | (rw [cif_f (fun h => by have := hi_13.mpr h; omega)]; done)
    · refine j_aload_n C dX5_across_19 rfl ?_
      refine j_iload_n C dX5_across_20 rfl ?_
      refine j_callVi1 C vX5_across_94 rfl rfl (Nat.le_of_ble_eq_true rfl) ⟨Nat.zero_le _, Nat.zero_le _⟩ dX5_across_21 (ct_X5_acrossOf (by first | omega | (refine ⟨?_, ?_⟩ <;> omega) | exact hw _ _ | exact nrm_R _)) (fun x_21 g_21 hk_21 => ?_)
      obtain ⟨e_21, rfl⟩ := hk_21
      have e_21 := e_21.symm
      subst e_21
      refine j_goto C (tgt := 29) dX5_across_24 (by decide) ?_
      refine j_iretI C dX5_across_29 (by intro h; cases h) (fun hw9 => ?_)
      refine ⟨rfl, ?_⟩
      unfold rAcross
      rw [if_neg (by omega)]
      first
      | (rw [cif_t (hi_13.mp (by omega))]; done)
      | (rw [cif_f (fun h => by have := hi_13.mpr h; omega)]; done)
  · refine j_ldc C (-1000001) dX5_across_8 kX5_across_89 ?_
    refine j_iretI C dX5_across_10 (by intro h; cases h) (fun hw9 => ?_)
    exact ⟨rfl, by unfold rAcross; rw [if_pos (by omega)]⟩
set_option maxHeartbeats 4000000 in
set_option maxRecDepth 100000 in
theorem ct_X5_along {t u : Int} {g : AG} (h : aR t ∧ aR u) : MetI yX5_along wsX5_along rmX5_along ShW [.inr 21, .inl t, .inl u] g (fun x g' => g' = g ∧ x = rAlong t u (g 26 t.toNat = g 26 u.toNat) (nrm (g 27 t.toNat - g 27 u.toNat))) := by
  refine metI_of (cc := cX5_along) (nL := 3) false (by decide +kernel) rfl (Nat.le_of_ble_eq_true rfl) (fun q J C => ?_)
  show J q ShW 0 0 0 [some (.inr 21), some (.inl t), some (.inl u)] [] g
  refine j_wf C (fun hw => ?_)
  obtain ⟨h1, h2⟩ := h
  refine j_iload_n C dX5_along_0 rfl ?_
  refine j_iconst C dX5_along_1 ?_
  refine j_bipush C dX5_along_2 (by decide +kernel) ?_
  refine j_callSi3 C vX5_along_75 rfl (Nat.le_of_ble_eq_true rfl) ⟨Nat.zero_le _, Nat.zero_le _⟩ dX5_along_4 (ct_X5_in ⟨h1, ⟨by omega, by omega⟩, ⟨by omega, by omega⟩⟩) (fun x_4 g_4 hk_4 => ?_)
  obtain ⟨e_4, hb_4, hi_4⟩ := hk_4
  have e_4 := e_4.symm
  subst e_4
  refine j_if_eq C (tgt := 20) dX5_along_7 (by decide) (by first | omega | (refine ⟨?_, ?_⟩ <;> omega) | exact hw _ _ | exact nrm_R _) (fun c_7 => ?_) (fun c_7 => ?_)
  · refine j_ldc C (-1000001) dX5_along_20 kX5_along_89 ?_
    refine j_iretI C dX5_along_22 (by intro h; cases h) (fun hw9 => ?_)
    exact ⟨rfl, by unfold rAlong; rw [if_pos (by omega)]⟩
  · refine j_iload_n C dX5_along_10 rfl ?_
    refine j_iconst C dX5_along_11 ?_
    refine j_bipush C dX5_along_12 (by decide +kernel) ?_
    refine j_callSi3 C vX5_along_75 rfl (Nat.le_of_ble_eq_true rfl) ⟨Nat.zero_le _, Nat.zero_le _⟩ dX5_along_14 (ct_X5_in ⟨h2, ⟨by omega, by omega⟩, ⟨by omega, by omega⟩⟩) (fun x_14 g_14 hk_14 => ?_)
    obtain ⟨e_14, hb_14, hi_14⟩ := hk_14
    have e_14 := e_14.symm
    subst e_14
    refine j_if_ne C (tgt := 23) dX5_along_17 (by decide) (by first | omega | (refine ⟨?_, ?_⟩ <;> omega) | exact hw _ _ | exact nrm_R _) (fun c_17 => ?_) (fun c_17 => ?_)
    · refine j_aload_n C dX5_along_23 rfl ?_
      refine j_getR C fX5_along_27 rfl rfl dX5_along_24 ?_
      refine j_iload_n C dX5_along_27 rfl ?_
      refine j_iaload C rfl (by decide) dX5_along_28 (by first | omega | (refine ⟨?_, ?_⟩ <;> omega) | exact hw _ _ | exact nrm_R _) (by first | omega | (refine ⟨?_, ?_⟩ <;> omega) | exact hw _ _ | exact nrm_R _) ?_
      refine j_aload_n C dX5_along_29 rfl ?_
      refine j_getR C fX5_along_27 rfl rfl dX5_along_30 ?_
      refine j_iload_n C dX5_along_33 rfl ?_
      refine j_iaload C rfl (by decide) dX5_along_34 (by first | omega | (refine ⟨?_, ?_⟩ <;> omega) | exact hw _ _ | exact nrm_R _) (by first | omega | (refine ⟨?_, ?_⟩ <;> omega) | exact hw _ _ | exact nrm_R _) ?_
      refine j_icmp_ne C (tgt := 54) dX5_along_35 (by decide) (by first | omega | (refine ⟨?_, ?_⟩ <;> omega) | exact hw _ _ | exact nrm_R _) (by first | omega | (refine ⟨?_, ?_⟩ <;> omega) | exact hw _ _ | exact nrm_R _) (fun c_35 => ?_) (fun c_35 => ?_)
      · refine j_ldc C (-1000005) dX5_along_54 kX5_along_98 ?_
        refine j_iretI C dX5_along_56 (by intro h; cases h) (fun hw9 => ?_)
        refine ⟨rfl, ?_⟩
        unfold rAlong
        rw [if_neg (by omega)]
        first
        | (rw [cif_t c_35]; done)
        | (rw [cif_f c_35]; done)
      · refine j_aload_n C dX5_along_38 rfl ?_
        refine j_getR C fX5_along_30 rfl rfl dX5_along_39 ?_
        refine j_iload_n C dX5_along_42 rfl ?_
        refine j_iaload C rfl (by decide) dX5_along_43 (by first | omega | (refine ⟨?_, ?_⟩ <;> omega) | exact hw _ _ | exact nrm_R _) (by first | omega | (refine ⟨?_, ?_⟩ <;> omega) | exact hw _ _ | exact nrm_R _) ?_
        refine j_aload_n C dX5_along_44 rfl ?_
        refine j_getR C fX5_along_30 rfl rfl dX5_along_45 ?_
        refine j_iload_n C dX5_along_48 rfl ?_
        refine j_iaload C rfl (by decide) dX5_along_49 (by first | omega | (refine ⟨?_, ?_⟩ <;> omega) | exact hw _ _ | exact nrm_R _) (by first | omega | (refine ⟨?_, ?_⟩ <;> omega) | exact hw _ _ | exact nrm_R _) ?_
        refine j_isub C dX5_along_50 ?_
        refine j_nrm C ?_
        refine j_goto C (tgt := 56) dX5_along_51 (by decide) ?_
        refine j_iretI C dX5_along_56 (by intro h; cases h) (fun hw9 => ?_)
        refine ⟨rfl, ?_⟩
        unfold rAlong
        rw [if_neg (by omega)]
        first
        | (rw [cif_t c_35]; done)
        | (rw [cif_f c_35]; done)
    · refine j_ldc C (-1000001) dX5_along_20 kX5_along_89 ?_
      refine j_iretI C dX5_along_22 (by intro h; cases h) (fun hw9 => ?_)
      exact ⟨rfl, by unfold rAlong; rw [if_pos (by omega)]⟩
set_option maxHeartbeats 4000000 in
set_option maxRecDepth 100000 in
theorem ct_X5_groups {g : AG} (h : 2 ≤ g 21 0 ∧ g 21 0 ≤ 24) : MetI yX5_groups wsX5_groups rmX5_groups ShW [.inr 21] g (fun x g' => g' = g ∧ x = cntG (fun j => g 26 (40 + j)) (g 21 0).toNat) := by
  refine metI_of (cc := cX5_groups) (nL := 5) false (by decide +kernel) rfl (Nat.le_of_ble_eq_true rfl) (fun q J C => ?_)
  show J q ShW 0 0 0 [some (.inr 21), none, none, none, none] [] g
  refine j_wf C (fun hw => ?_)
  obtain ⟨h2, h3⟩ := h
  have inn : ∀ (P : Int) (N : Int), 0 ≤ P → P < 24 → ∀ k : Nat, ∀ (i f : Int), (P - i).toNat = k → 0 ≤ i → i ≤ P → (f = 0 ∨ f = 1) → (f = 1 ↔ ∀ j : Nat, j < i.toNat → g 26 (40 + j) ≠ g 26 (40 + P.toNat)) → (∀ f9 : Int, (f9 = 0 ∨ f9 = 1) → (f9 = 1 ↔ fst1 (fun j => g 26 (40 + j)) P.toNat) → J q ShW 0 0 61 [some (.inr 21), some (.inl N), some (.inl P), some (.inl f9), some (.inl P)] [] g) → J q ShW 0 0 17 [some (.inr 21), some (.inl N), some (.inl P), some (.inl f), some (.inl i)] [] g := by
    intro P N hP0 hP1
    refine byN _ (fun k ih i f hn2 h0 h1 hf1 hf2 kk => ?_)
    have e1 : (40 + P).toNat = 40 + P.toNat := by omega
    have e2 : (40 + i).toNat = 40 + i.toNat := by omega
    refine j_iload C dX5_groups_17 rfl ?_
    refine j_iload_n C dX5_groups_19 rfl ?_
    refine j_icmp_ge C (tgt := 61) dX5_groups_20 (by decide) (by first | omega | (refine ⟨?_, ?_⟩ <;> omega) | exact hw _ _ | exact nrm_R _) (by first | omega | (refine ⟨?_, ?_⟩ <;> omega) | exact hw _ _ | exact nrm_R _) (fun c_20 => ?_) (fun c_20 => ?_)
    · have e3 : i = P := by omega
      subst e3
      exact kk f hf1 hf2
    · refine j_iload_n C dX5_groups_23 rfl ?_
      refine j_if_eq C (tgt := 53) dX5_groups_24 (by decide) (by first | omega | (refine ⟨?_, ?_⟩ <;> omega) | exact hw _ _ | exact nrm_R _) (fun c_24 => ?_) (fun c_24 => ?_)
      · refine j_iconst C dX5_groups_53 ?_
        refine j_istore_n C dX5_groups_54 (Nat.le_of_ble_eq_true rfl) ?_
        dsimp only [List.set]
        refine j_iinc C dX5_groups_55 rfl ?_
        dsimp only [List.set]
        refine j_goto C (tgt := 17) dX5_groups_58 (by decide) ?_
        refine ih _ (by omega) (i + 1) _ rfl (by omega) (by omega) (by omega) ?_ kk
        rw [show (i + 1).toNat = i.toNat + 1 by omega]
        first
        | (exfalso; omega)
        | (rw [e1, e2] at c_46
           first
           | exact ⟨fun h => absurd h (by decide), fun h => absurd c_46.symm (h i.toNat (by omega))⟩
           | (refine ⟨fun _ j hj => ?_, fun _ => rfl⟩
              by_cases hji : j = i.toNat
              · subst hji
                exact fun z => c_46 z.symm
              · exact hf2.mp (by omega) j (by omega)))
        | exact ⟨fun h => absurd h (by decide), fun h => absurd (hf2.mpr (fun j hj => h j (by omega))) (by omega)⟩
      · refine j_aload_n C dX5_groups_27 rfl ?_
        refine j_getR C fX5_groups_27 rfl rfl dX5_groups_28 ?_
        refine j_bipush C dX5_groups_31 (by decide +kernel) ?_
        refine j_iload_n C dX5_groups_33 rfl ?_
        refine j_iadd C dX5_groups_34 ?_
        refine j_iaload C rfl (by decide) dX5_groups_35 (by first | omega | (refine ⟨?_, ?_⟩ <;> omega) | exact hw _ _ | exact nrm_R _) (by first | omega | (refine ⟨?_, ?_⟩ <;> omega) | exact hw _ _ | exact nrm_R _) ?_
        refine j_aload_n C dX5_groups_36 rfl ?_
        refine j_getR C fX5_groups_27 rfl rfl dX5_groups_37 ?_
        refine j_bipush C dX5_groups_40 (by decide +kernel) ?_
        refine j_iload C dX5_groups_42 rfl ?_
        refine j_iadd C dX5_groups_44 ?_
        refine j_iaload C rfl (by decide) dX5_groups_45 (by first | omega | (refine ⟨?_, ?_⟩ <;> omega) | exact hw _ _ | exact nrm_R _) (by first | omega | (refine ⟨?_, ?_⟩ <;> omega) | exact hw _ _ | exact nrm_R _) ?_
        refine j_icmp_eq C (tgt := 53) dX5_groups_46 (by decide) (by first | omega | (refine ⟨?_, ?_⟩ <;> omega) | exact hw _ _ | exact nrm_R _) (by first | omega | (refine ⟨?_, ?_⟩ <;> omega) | exact hw _ _ | exact nrm_R _) (fun c_46 => ?_) (fun c_46 => ?_)
        · refine j_iconst C dX5_groups_53 ?_
          refine j_istore_n C dX5_groups_54 (Nat.le_of_ble_eq_true rfl) ?_
          dsimp only [List.set]
          refine j_iinc C dX5_groups_55 rfl ?_
          dsimp only [List.set]
          refine j_goto C (tgt := 17) dX5_groups_58 (by decide) ?_
          refine ih _ (by omega) (i + 1) _ rfl (by omega) (by omega) (by omega) ?_ kk
          rw [show (i + 1).toNat = i.toNat + 1 by omega]
          first
          | (exfalso; omega)
          | (rw [e1, e2] at c_46
             first
             | exact ⟨fun h => absurd h (by decide), fun h => absurd c_46.symm (h i.toNat (by omega))⟩
             | (refine ⟨fun _ j hj => ?_, fun _ => rfl⟩
                by_cases hji : j = i.toNat
                · subst hji
                  exact fun z => c_46 z.symm
                · exact hf2.mp (by omega) j (by omega)))
          | exact ⟨fun h => absurd h (by decide), fun h => absurd (hf2.mpr (fun j hj => h j (by omega))) (by omega)⟩
        · refine j_iconst C dX5_groups_49 ?_
          refine j_goto C (tgt := 54) dX5_groups_50 (by decide) ?_
          refine j_istore_n C dX5_groups_54 (Nat.le_of_ble_eq_true rfl) ?_
          dsimp only [List.set]
          refine j_iinc C dX5_groups_55 rfl ?_
          dsimp only [List.set]
          refine j_goto C (tgt := 17) dX5_groups_58 (by decide) ?_
          refine ih _ (by omega) (i + 1) _ rfl (by omega) (by omega) (by omega) ?_ kk
          rw [show (i + 1).toNat = i.toNat + 1 by omega]
          first
          | (exfalso; omega)
          | (rw [e1, e2] at c_46
             first
             | exact ⟨fun h => absurd h (by decide), fun h => absurd c_46.symm (h i.toNat (by omega))⟩
             | (refine ⟨fun _ j hj => ?_, fun _ => rfl⟩
                by_cases hji : j = i.toNat
                · subst hji
                  exact fun z => c_46 z.symm
                · exact hf2.mp (by omega) j (by omega)))
          | exact ⟨fun h => absurd h (by decide), fun h => absurd (hf2.mpr (fun j hj => h j (by omega))) (by omega)⟩
  have lp : ∀ k : Nat, ∀ (i : Int) (l3 l4 : Option AV), (g 21 0 - i).toNat = k → 0 ≤ i → i ≤ g 21 0 → J q ShW 0 0 4 [some (.inr 21), some (.inl (cntG (fun j => g 26 (40 + j)) i.toNat)), some (.inl i), l3, l4] [] g := by
    refine byN _ (fun k ih i l3 l4 hn2 h0 h1 => ?_)
    have hc := cntG_b (fun j => g 26 (40 + j)) i.toNat
    refine j_iload_n C dX5_groups_4 rfl ?_
    refine j_aload_n C dX5_groups_5 rfl ?_
    refine j_getI C fX5_groups_7 rfl rfl dX5_groups_6 ?_
    refine j_icmp_ge C (tgt := 79) dX5_groups_9 (by decide) (by first | omega | (refine ⟨?_, ?_⟩ <;> omega) | exact hw _ _ | exact nrm_R _) (by first | omega | (refine ⟨?_, ?_⟩ <;> omega) | exact hw _ _ | exact nrm_R _) (fun c_9 => ?_) (fun c_9 => ?_)
    · refine j_iload_n C dX5_groups_79 rfl ?_
      refine j_iretI C dX5_groups_80 (by intro h; cases h) (fun hw9 => ?_)
      exact ⟨rfl, by rw [show i.toNat = (g 21 0).toNat by omega]⟩
    · refine j_iconst C dX5_groups_12 ?_
      refine j_istore_n C dX5_groups_13 (Nat.le_of_ble_eq_true rfl) ?_
      dsimp only [List.set]
      refine j_iconst C dX5_groups_14 ?_
      refine j_istore C dX5_groups_15 (Nat.le_of_ble_eq_true rfl) ?_
      dsimp only [List.set]
      refine inn i _ h0 (by omega) _ 0 1 rfl (by omega) (by omega) (Or.inr rfl) ⟨fun _ j hj => absurd hj (by simp), fun _ => rfl⟩ (fun f9 hf1 hf2 => ?_)
      refine j_iload_n C dX5_groups_61 rfl ?_
      refine j_iload_n C dX5_groups_62 rfl ?_
      refine j_if_eq C (tgt := 70) dX5_groups_63 (by decide) (by first | omega | (refine ⟨?_, ?_⟩ <;> omega) | exact hw _ _ | exact nrm_R _) (fun c_63 => ?_) (fun c_63 => ?_)
      · refine j_iconst C dX5_groups_70 ?_
        refine j_iadd C dX5_groups_71 ?_
        refine j_istore_n C dX5_groups_72 (Nat.le_of_ble_eq_true rfl) ?_
        dsimp only [List.set]
        refine j_iinc C dX5_groups_73 rfl ?_
        dsimp only [List.set]
        refine j_goto C (tgt := 4) dX5_groups_76 (by decide) ?_
        refine j_cast (ih _ (by omega) (i + 1) (some (.inl f9)) (some (.inl i)) rfl (by omega) (by omega)) ?_ rfl rfl
        rw [show (i + 1).toNat = i.toNat + 1 by omega, cntG]
        by_cases hf : fst1 (fun j => g 26 (40 + j)) i.toNat
        · rw [if_pos hf]
          all_goals first | rfl | (exfalso; have := hf2.mpr hf; omega)
        · rw [if_neg hf]
          all_goals first | rfl | (exfalso; exact hf (hf2.mp (by omega)))
      · refine j_iconst C dX5_groups_66 ?_
        refine j_goto C (tgt := 71) dX5_groups_67 (by decide) ?_
        refine j_iadd C dX5_groups_71 ?_
        refine j_istore_n C dX5_groups_72 (Nat.le_of_ble_eq_true rfl) ?_
        dsimp only [List.set]
        refine j_iinc C dX5_groups_73 rfl ?_
        dsimp only [List.set]
        refine j_goto C (tgt := 4) dX5_groups_76 (by decide) ?_
        refine j_cast (ih _ (by omega) (i + 1) (some (.inl f9)) (some (.inl i)) rfl (by omega) (by omega)) ?_ rfl rfl
        rw [show (i + 1).toNat = i.toNat + 1 by omega, cntG]
        by_cases hf : fst1 (fun j => g 26 (40 + j)) i.toNat
        · rw [if_pos hf]
          all_goals first | rfl | (exfalso; have := hf2.mpr hf; omega)
        · rw [if_neg hf]
          all_goals first | rfl | (exfalso; exact hf (hf2.mp (by omega)))
  refine j_iconst C dX5_groups_0 ?_
  refine j_istore_n C dX5_groups_1 (Nat.le_of_ble_eq_true rfl) ?_
  dsimp only [List.set]
  refine j_iconst C dX5_groups_2 ?_
  refine j_istore_n C dX5_groups_3 (Nat.le_of_ble_eq_true rfl) ?_
  dsimp only [List.set]
  exact lp _ 0 _ _ rfl (by omega) (by omega)
set_option maxHeartbeats 4000000 in
set_option maxRecDepth 100000 in
theorem ct_X5_take {g : AG} (h : 2 ≤ g 21 0 ∧ g 21 0 ≤ 24) : MetI yX5_take wsX5_take rmX5_take ShW [.inr 21] g (fun x g' => x = cif (takeP (g 21 0).toNat (fun p => g 26 (40 + p) = g 26 40) (fun p => nrm (g 27 40 - g 27 (40 + p)))) 1 (-5) ∧ g' = (if x = 1 then row g 28 (fillU (g 28) (g 21 0).toNat (fun p => nrm (g 27 40 - g 27 (40 + p)))) else g)) := by
  refine metI_of (cc := cX5_take) (nL := 2) false (by decide +kernel) rfl (Nat.le_of_ble_eq_true rfl) (fun q J C => ?_)
  show J q ShW 0 0 0 [some (.inr 21), none] [] g
  refine j_wf C (fun hw => ?_)
  obtain ⟨h2, h3⟩ := h
  have lp2 : takeP (g 21 0).toNat (fun p => g 26 (40 + p) = g 26 40) (fun p => nrm (g 27 40 - g 27 (40 + p))) → ∀ k : Nat, ∀ (i : Int), (g 21 0 - i).toNat = k → 0 ≤ i → i ≤ g 21 0 → J q ShW 0 0 46 [some (.inr 21), some (.inl i)] [] (row g 28 (fillU (g 28) i.toNat (fun p => nrm (g 27 40 - g 27 (40 + p))))) := by
    intro hT
    refine byN _ (fun k ih i hn2 h0 h1 => ?_)
    refine j_wf C (fun hw => ?_)
    have e0 : (row g 28 (fillU (g 28) i.toNat (fun p => nrm (g 27 40 - g 27 (40 + p))))) 21 0 = g 21 0 := rfl
    refine j_iload_n C dX5_take_46 rfl ?_
    refine j_aload_n C dX5_take_47 rfl ?_
    refine j_getI C fX5_take_7 rfl rfl dX5_take_48 ?_
    refine j_icmp_ge C (tgt := 71) dX5_take_51 (by decide) (by first | omega | (refine ⟨?_, ?_⟩ <;> omega) | exact hw _ _ | exact nrm_R _ | (rw [e0]; omega) | (rw [e0]; refine ⟨?_, ?_⟩ <;> omega)) (by first | omega | (refine ⟨?_, ?_⟩ <;> omega) | exact hw _ _ | exact nrm_R _ | (rw [e0]; omega) | (rw [e0]; refine ⟨?_, ?_⟩ <;> omega)) (fun c_51 => ?_) (fun c_51 => ?_)
    · refine j_iconst C dX5_take_71 ?_
      refine j_iretI C dX5_take_72 (by intro h; cases h) (fun hw9 => ?_)
      refine ⟨?_, ?_⟩
      · rw [cif_t hT]
      · rw [if_pos rfl, show i.toNat = (g 21 0).toNat by omega]
    · refine j_aload_n C dX5_take_54 rfl ?_
      refine j_getR C fX5_take_33 rfl rfl dX5_take_55 ?_
      refine j_iload_n C dX5_take_58 rfl ?_
      refine j_aload_n C dX5_take_59 rfl ?_
      refine j_iload_n C dX5_take_60 rfl ?_
      refine j_callVi1 C vX5_take_94 rfl rfl (Nat.le_of_ble_eq_true rfl) ⟨Nat.zero_le _, Nat.zero_le _⟩ dX5_take_61 (ct_X5_acrossOf (by omega)) (fun x_61 g_61 hk_61 => ?_)
      obtain ⟨e_61, rfl⟩ := hk_61
      have e_61 := e_61.symm
      subst e_61
      refine j_iastore C rfl (by decide) dX5_take_64 (by first | omega | (refine ⟨?_, ?_⟩ <;> omega) | exact hw _ _ | exact nrm_R _ | (rw [e0]; omega) | (rw [e0]; refine ⟨?_, ?_⟩ <;> omega)) (by first | omega | (refine ⟨?_, ?_⟩ <;> omega) | exact hw _ _ | exact nrm_R _ | (rw [e0]; omega) | (rw [e0]; refine ⟨?_, ?_⟩ <;> omega)) (by first | omega | (refine ⟨?_, ?_⟩ <;> omega) | exact hw _ _ | exact nrm_R _ | (rw [e0]; omega) | (rw [e0]; refine ⟨?_, ?_⟩ <;> omega)) ?_
      refine j_iinc C dX5_take_65 rfl ?_
      dsimp only [List.set]
      refine j_goto C (tgt := 46) dX5_take_68 (by decide) ?_
      refine j_cast (ih _ (by omega) (i + 1) rfl (by omega) (by omega)) rfl rfl ?_
      rw [show (i + 1).toNat = i.toNat + 1 by omega, fillU_s]
      have e2 : (40 + i).toNat = 40 + i.toNat := by omega
      funext k' j
      by_cases a6 : k' = 28
      · subst a6
        simp [row, aset, e2]
      · simp [row, aset, a6]
  have lp : ∀ k : Nat, ∀ (i : Int), (g 21 0 - i).toNat = k → 0 ≤ i → i ≤ g 21 0 → takeP i.toNat (fun p => g 26 (40 + p) = g 26 40) (fun p => nrm (g 27 40 - g 27 (40 + p))) → J q ShW 0 0 2 [some (.inr 21), some (.inl i)] [] g := by
    refine byN _ (fun k ih i hn2 h0 h1 hT => ?_)
    have e2 : (40 + i).toNat = 40 + i.toNat := by omega
    refine j_iload_n C dX5_take_2 rfl ?_
    refine j_aload_n C dX5_take_3 rfl ?_
    refine j_getI C fX5_take_7 rfl rfl dX5_take_4 ?_
    refine j_icmp_ge C (tgt := 44) dX5_take_7 (by decide) (by first | omega | (refine ⟨?_, ?_⟩ <;> omega) | exact hw _ _ | exact nrm_R _) (by first | omega | (refine ⟨?_, ?_⟩ <;> omega) | exact hw _ _ | exact nrm_R _) (fun c_7 => ?_) (fun c_7 => ?_)
    · refine j_iconst C dX5_take_44 ?_
      refine j_istore_n C dX5_take_45 (Nat.le_of_ble_eq_true rfl) ?_
      dsimp only [List.set]
      refine j_cast (lp2 (by rw [show (g 21 0).toNat = i.toNat by omega]; exact hT) _ 0 rfl (by omega) (by omega)) rfl rfl ?_
      rw [show (0 : Int).toNat = 0 from rfl, fillU_0, row_id]
    · refine j_aload_n C dX5_take_10 rfl ?_
      refine j_iload_n C dX5_take_11 rfl ?_
      refine j_callVi1 C vX5_take_91 rfl rfl (Nat.le_of_ble_eq_true rfl) ⟨Nat.zero_le _, Nat.zero_le _⟩ dX5_take_12 (ct_X5_isAcross (by omega)) (fun x_12 g_12 hk_12 => ?_)
      obtain ⟨e_12, hb_12, hi_12⟩ := hk_12
      have e_12 := e_12.symm
      subst e_12
      refine j_if_eq C (tgt := 35) dX5_take_15 (by decide) (by first | omega | (refine ⟨?_, ?_⟩ <;> omega) | exact hw _ _ | exact nrm_R _) (fun c_15 => ?_) (fun c_15 => ?_)
      · refine j_bipush C dX5_take_35 (by decide +kernel) ?_
        refine j_iretI C dX5_take_37 (by intro h; cases h) (fun hw9 => ?_)
        rw [e2] at *
        refine ⟨?_, by rw [if_neg (by decide)]⟩
        rw [cif_f]
        intro hh
        have h9 := hh i.toNat (by omega)
        first
        | (have := hi_12.mpr h9.1; omega)
        | (have := hi_29.mpr ⟨h9.2.1, h9.2.2⟩; omega)
      · refine j_aload_n C dX5_take_18 rfl ?_
        refine j_iload_n C dX5_take_19 rfl ?_
        refine j_callVi1 C vX5_take_94 rfl rfl (Nat.le_of_ble_eq_true rfl) ⟨Nat.zero_le _, Nat.zero_le _⟩ dX5_take_20 (ct_X5_acrossOf (by omega)) (fun x_20 g_20 hk_20 => ?_)
        obtain ⟨e_20, rfl⟩ := hk_20
        have e_20 := e_20.symm
        subst e_20
        refine j_sipush C dX5_take_23 (by decide +kernel) ?_
        refine j_sipush C dX5_take_26 (by decide +kernel) ?_
        refine j_callSi3 C vX5_take_75 rfl (Nat.le_of_ble_eq_true rfl) ⟨Nat.zero_le _, Nat.zero_le _⟩ dX5_take_29 (ct_X5_in ⟨nrm_R _, ⟨by omega, by omega⟩, ⟨by omega, by omega⟩⟩) (fun x_29 g_29 hk_29 => ?_)
        obtain ⟨e_29, hb_29, hi_29⟩ := hk_29
        have e_29 := e_29.symm
        subst e_29
        refine j_if_ne C (tgt := 38) dX5_take_32 (by decide) (by first | omega | (refine ⟨?_, ?_⟩ <;> omega) | exact hw _ _ | exact nrm_R _) (fun c_32 => ?_) (fun c_32 => ?_)
        · refine j_iinc C dX5_take_38 rfl ?_
          dsimp only [List.set]
          refine j_goto C (tgt := 2) dX5_take_41 (by decide) ?_
          refine ih _ (by omega) (i + 1) rfl (by omega) (by omega) (fun j hj => ?_)
          by_cases hji : j = i.toNat
          · subst hji
            rw [e2] at *
            have q1 := hi_12.mp (by omega)
            have q2 := hi_29.mp (by omega)
            exact ⟨q1, q2.1, q2.2⟩
          · exact hT j (by omega)
        · refine j_bipush C dX5_take_35 (by decide +kernel) ?_
          refine j_iretI C dX5_take_37 (by intro h; cases h) (fun hw9 => ?_)
          rw [e2] at *
          refine ⟨?_, by rw [if_neg (by decide)]⟩
          rw [cif_f]
          intro hh
          have h9 := hh i.toNat (by omega)
          first
          | (have := hi_12.mpr h9.1; omega)
          | (have := hi_29.mpr ⟨h9.2.1, h9.2.2⟩; omega)
  refine j_iconst C dX5_take_0 ?_
  refine j_istore_n C dX5_take_1 (Nat.le_of_ble_eq_true rfl) ?_
  dsimp only [List.set]
  exact lp _ 0 rfl (by omega) (by omega) (fun j hj => absurd hj (by simp))
set_option maxHeartbeats 4000000 in
set_option maxRecDepth 100000 in
theorem ct_X5_clear {g : AG} : MetI yX5_clear wsX5_clear rmX5_clear ShW [.inr 21] g (fun x g' => x = g 21 1 ∧ g' = modF g) := by
  refine metI_of (cc := cX5_clear) (nL := 2) false (by decide +kernel) rfl (Nat.le_of_ble_eq_true rfl) (fun q J C => ?_)
  show J q ShW 0 0 0 [some (.inr 21), none] [] g
  refine j_wf C (fun hw => ?_)
  refine j_aload_n C dX5_clear_0 rfl ?_
  refine j_getI C fX5_clear_79 rfl rfl dX5_clear_1 ?_
  refine j_istore_n C dX5_clear_4 (Nat.le_of_ble_eq_true rfl) ?_
  dsimp only [List.set]
  refine j_aload_n C dX5_clear_5 rfl ?_
  refine j_callVv0 C vX5_clear_72 rfl rfl (Nat.le_of_ble_eq_true rfl) ⟨Nat.zero_le _, Nat.zero_le _⟩ dX5_clear_6 (ct_X5_begin ) (fun g_6 hk_6 => ?_)
  subst hk_6
  refine j_iload_n C dX5_clear_9 rfl ?_
  refine j_iretI C dX5_clear_10 (by intro h; cases h) (fun hw9 => ?_)
  exact ⟨rfl, rfl⟩
