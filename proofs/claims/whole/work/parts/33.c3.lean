set_option maxHeartbeats 4000000 in
set_option maxRecDepth 100000 in
theorem ct_X2_places {g : AG} : MetI yX2_places wsX2_places rmX2_places ShW [.inr 8] g (fun x g' => g' = g ∧ x = g 8 2) := by
  refine metI_of (cc := cX2_places) (nL := 1) false (by decide +kernel) rfl (Nat.le_of_ble_eq_true rfl) (fun q J C => ?_)
  show J q ShW 0 0 0 [some (.inr 8)] [] g
  refine j_wf C (fun hw => ?_)
  refine j_aload_n C dX2_places_0 rfl ?_
  refine j_getI C fX2_places_18 rfl rfl dX2_places_1 ?_
  refine j_iretI C dX2_places_4 (by intro h; cases h) (fun hw9 => ?_)
  exact ⟨rfl, rfl⟩
set_option maxHeartbeats 4000000 in
set_option maxRecDepth 100000 in
theorem ct_X2_nextLaw {g : AG} : MetI yX2_nextLaw wsX2_nextLaw rmX2_nextLaw ShW [.inr 8] g (fun x g' => g' = g ∧ x = g 8 3) := by
  refine metI_of (cc := cX2_nextLaw) (nL := 1) false (by decide +kernel) rfl (Nat.le_of_ble_eq_true rfl) (fun q J C => ?_)
  show J q ShW 0 0 0 [some (.inr 8)] [] g
  refine j_wf C (fun hw => ?_)
  refine j_aload_n C dX2_nextLaw_0 rfl ?_
  refine j_getI C fX2_nextLaw_22 rfl rfl dX2_nextLaw_1 ?_
  refine j_iretI C dX2_nextLaw_4 (by intro h; cases h) (fun hw9 => ?_)
  exact ⟨rfl, rfl⟩
set_option maxHeartbeats 4000000 in
set_option maxRecDepth 100000 in
theorem ct_X2_bendLaw {g : AG} : MetI yX2_bendLaw wsX2_bendLaw rmX2_bendLaw ShW [.inr 8] g (fun x g' => g' = g ∧ x = g 8 4) := by
  refine metI_of (cc := cX2_bendLaw) (nL := 1) false (by decide +kernel) rfl (Nat.le_of_ble_eq_true rfl) (fun q J C => ?_)
  show J q ShW 0 0 0 [some (.inr 8)] [] g
  refine j_wf C (fun hw => ?_)
  refine j_aload_n C dX2_bendLaw_0 rfl ?_
  refine j_getI C fX2_bendLaw_25 rfl rfl dX2_bendLaw_1 ?_
  refine j_iretI C dX2_bendLaw_4 (by intro h; cases h) (fun hw9 => ?_)
  exact ⟨rfl, rfl⟩
set_option maxHeartbeats 4000000 in
set_option maxRecDepth 100000 in
theorem ct_X2_mainSpread {g : AG} : MetI yX2_mainSpread wsX2_mainSpread rmX2_mainSpread ShW [.inr 8] g (fun x g' => g' = g ∧ x = g 8 5) := by
  refine metI_of (cc := cX2_mainSpread) (nL := 1) false (by decide +kernel) rfl (Nat.le_of_ble_eq_true rfl) (fun q J C => ?_)
  show J q ShW 0 0 0 [some (.inr 8)] [] g
  refine j_wf C (fun hw => ?_)
  refine j_aload_n C dX2_mainSpread_0 rfl ?_
  refine j_getI C fX2_mainSpread_28 rfl rfl dX2_mainSpread_1 ?_
  refine j_iretI C dX2_mainSpread_4 (by intro h; cases h) (fun hw9 => ?_)
  exact ⟨rfl, rfl⟩
set_option maxHeartbeats 4000000 in
set_option maxRecDepth 100000 in
theorem ct_X2_sideSpread {g : AG} : MetI yX2_sideSpread wsX2_sideSpread rmX2_sideSpread ShW [.inr 8] g (fun x g' => g' = g ∧ x = g 8 6) := by
  refine metI_of (cc := cX2_sideSpread) (nL := 1) false (by decide +kernel) rfl (Nat.le_of_ble_eq_true rfl) (fun q J C => ?_)
  show J q ShW 0 0 0 [some (.inr 8)] [] g
  refine j_wf C (fun hw => ?_)
  refine j_aload_n C dX2_sideSpread_0 rfl ?_
  refine j_getI C fX2_sideSpread_40 rfl rfl dX2_sideSpread_1 ?_
  refine j_iretI C dX2_sideSpread_4 (by intro h; cases h) (fun hw9 => ?_)
  exact ⟨rfl, rfl⟩
set_option maxHeartbeats 4000000 in
set_option maxRecDepth 100000 in
theorem ct_X2_baseOf {p : Int} {g : AG} (h : 0 ≤ p ∧ p < 24) : MetI yX2_baseOf wsX2_baseOf rmX2_baseOf ShW [.inr 8, .inl p] g (fun x g' => g' = g ∧ x = g 9 p.toNat) := by
  refine metI_of (cc := cX2_baseOf) (nL := 2) false (by decide +kernel) rfl (Nat.le_of_ble_eq_true rfl) (fun q J C => ?_)
  show J q ShW 0 0 0 [some (.inr 8), some (.inl p)] [] g
  refine j_wf C (fun hw => ?_)
  refine j_aload_n C dX2_baseOf_0 rfl ?_
  refine j_getR C fX2_baseOf_9 rfl rfl dX2_baseOf_1 ?_
  refine j_iload_n C dX2_baseOf_4 rfl ?_
  refine j_iaload C rfl (by decide) dX2_baseOf_5 (by first | omega | (refine ⟨?_, ?_⟩ <;> omega) | exact hw _ _ | exact nrm_R _) (by first | omega | (refine ⟨?_, ?_⟩ <;> omega) | exact hw _ _ | exact nrm_R _) ?_
  refine j_iretI C dX2_baseOf_6 (by intro h; cases h) (fun hw9 => ?_)
  exact ⟨rfl, rfl⟩
set_option maxHeartbeats 4000000 in
set_option maxRecDepth 100000 in
theorem ct_X2_settingOf {p : Int} {g : AG} (h : 0 ≤ p ∧ p < 24) : MetI yX2_settingOf wsX2_settingOf rmX2_settingOf ShW [.inr 8, .inl p] g (fun x g' => g' = g ∧ x = g 10 p.toNat) := by
  refine metI_of (cc := cX2_settingOf) (nL := 2) false (by decide +kernel) rfl (Nat.le_of_ble_eq_true rfl) (fun q J C => ?_)
  show J q ShW 0 0 0 [some (.inr 8), some (.inl p)] [] g
  refine j_wf C (fun hw => ?_)
  refine j_aload_n C dX2_settingOf_0 rfl ?_
  refine j_getR C fX2_settingOf_15 rfl rfl dX2_settingOf_1 ?_
  refine j_iload_n C dX2_settingOf_4 rfl ?_
  refine j_iaload C rfl (by decide) dX2_settingOf_5 (by first | omega | (refine ⟨?_, ?_⟩ <;> omega) | exact hw _ _ | exact nrm_R _) (by first | omega | (refine ⟨?_, ?_⟩ <;> omega) | exact hw _ _ | exact nrm_R _) ?_
  refine j_iretI C dX2_settingOf_6 (by intro h; cases h) (fun hw9 => ?_)
  exact ⟨rfl, rfl⟩
set_option maxHeartbeats 4000000 in
set_option maxRecDepth 100000 in
theorem ct_X2_putLaws {a b : Int} {g : AG} (h : aR a ∧ aR b) : MetV yX2_putLaws wsX2_putLaws rmX2_putLaws ShW [.inr 8, .inl a, .inl b] g (fun g' => g' = aset (aset g 8 3 a) 8 4 b) := by
  refine metV_of (cc := cX2_putLaws) (nL := 3) (by decide +kernel) rfl (Nat.le_of_ble_eq_true rfl) (fun q J C => ?_)
  show J q ShW 0 0 0 [some (.inr 8), some (.inl a), some (.inl b)] [] g
  refine j_wf C (fun hw => ?_)
  refine j_aload_n C dX2_putLaws_0 rfl ?_
  refine j_iload_n C dX2_putLaws_1 rfl ?_
  refine j_putI C pX2_putLaws_22 rfl rfl (by first | exact h.1 | exact h.2) (by intro h; cases h) dX2_putLaws_2 ?_
  refine j_aload_n C dX2_putLaws_5 rfl ?_
  refine j_iload_n C dX2_putLaws_6 rfl ?_
  refine j_putI C pX2_putLaws_25 rfl rfl (by first | exact h.1 | exact h.2) (by intro h; cases h) dX2_putLaws_7 ?_
  refine j_vretV C dX2_putLaws_10 (fun hw9 => ?_)
  rfl
set_option maxHeartbeats 4000000 in
set_option maxRecDepth 100000 in
theorem ct_X2_putSpread {a b : Int} {g : AG} (h : aR a ∧ aR b) : MetV yX2_putSpread wsX2_putSpread rmX2_putSpread ShW [.inr 8, .inl a, .inl b] g (fun g' => g' = aset (aset g 8 5 a) 8 6 b) := by
  refine metV_of (cc := cX2_putSpread) (nL := 3) (by decide +kernel) rfl (Nat.le_of_ble_eq_true rfl) (fun q J C => ?_)
  show J q ShW 0 0 0 [some (.inr 8), some (.inl a), some (.inl b)] [] g
  refine j_wf C (fun hw => ?_)
  refine j_aload_n C dX2_putSpread_0 rfl ?_
  refine j_iload_n C dX2_putSpread_1 rfl ?_
  refine j_putI C pX2_putSpread_28 rfl rfl (by first | exact h.1 | exact h.2) (by intro h; cases h) dX2_putSpread_2 ?_
  refine j_aload_n C dX2_putSpread_5 rfl ?_
  refine j_iload_n C dX2_putSpread_6 rfl ?_
  refine j_putI C pX2_putSpread_40 rfl rfl (by first | exact h.1 | exact h.2) (by intro h; cases h) dX2_putSpread_7 ?_
  refine j_vretV C dX2_putSpread_10 (fun hw9 => ?_)
  rfl
set_option maxHeartbeats 4000000 in
set_option maxRecDepth 100000 in
theorem ct_X2_putBase {p v : Int} {g : AG} (h : 0 ≤ p ∧ p < 24 ∧ aR v) : MetV yX2_putBase wsX2_putBase rmX2_putBase ShW [.inr 8, .inl p, .inl v] g (fun g' => g' = aset g 9 p.toNat v) := by
  refine metV_of (cc := cX2_putBase) (nL := 3) (by decide +kernel) rfl (Nat.le_of_ble_eq_true rfl) (fun q J C => ?_)
  show J q ShW 0 0 0 [some (.inr 8), some (.inl p), some (.inl v)] [] g
  refine j_wf C (fun hw => ?_)
  refine j_aload_n C dX2_putBase_0 rfl ?_
  refine j_getR C fX2_putBase_9 rfl rfl dX2_putBase_1 ?_
  refine j_iload_n C dX2_putBase_4 rfl ?_
  refine j_iload_n C dX2_putBase_5 rfl ?_
  refine j_iastore C rfl (by decide) dX2_putBase_6 (by first | omega | exact h.2.2) (by first | omega | exact h.2.2) (by first | omega | exact h.2.2) ?_
  refine j_vretV C dX2_putBase_7 (fun hw9 => ?_)
  rfl
def lipF (g : AG) (n : Int) : AG := row (row (aset g 8 2 n) 9 (fillU (g 9) 24 (fun _ => 0))) 10 (fillU (g 10) 24 (fun _ => 0))
set_option maxHeartbeats 4000000 in
set_option maxRecDepth 100000 in
theorem ct_X2_renew {n : Int} {g : AG} (h : aR n) : MetV yX2_renew wsX2_renew rmX2_renew ShW [.inr 8, .inl n] g (fun g' => g' = lipF g n) := by
  refine metV_of (cc := cX2_renew) (nL := 2) (by decide +kernel) rfl (Nat.le_of_ble_eq_true rfl) (fun q J C => ?_)
  show J q ShW 0 0 0 [some (.inr 8), some (.inl n)] [] g
  refine j_wf C (fun hw => ?_)
  refine j_aload_n C dX2_renew_0 rfl ?_
  refine j_iload_n C dX2_renew_1 rfl ?_
  refine j_putI C pX2_renew_18 rfl rfl (by exact h) (by intro h; cases h) dX2_renew_2 ?_
  refine j_aload_n C dX2_renew_5 rfl ?_
  refine j_getR C fX2_renew_9 rfl rfl dX2_renew_6 ?_
  refine j_iconst C dX2_renew_9 ?_
  refine j_callSv2 C vX2_renew_34 rfl (Nat.le_of_ble_eq_true rfl) ⟨Nat.zero_le _, Nat.zero_le _⟩ dX2_renew_10 (ct_J7_fill (k := 9) rfl (by decide) aR_0) (fun g_10 hk_10 => ?_)
  subst hk_10
  refine j_aload_n C dX2_renew_13 rfl ?_
  refine j_getR C fX2_renew_15 rfl rfl dX2_renew_14 ?_
  refine j_iconst C dX2_renew_17 ?_
  refine j_callSv2 C vX2_renew_34 rfl (Nat.le_of_ble_eq_true rfl) ⟨Nat.zero_le _, Nat.zero_le _⟩ dX2_renew_18 (ct_J7_fill (k := 10) rfl (by decide) aR_0) (fun g_18 hk_18 => ?_)
  subst hk_18
  refine j_vretV C dX2_renew_21 (fun hw9 => ?_)
  show _ = lipF g n
  rfl
set_option maxHeartbeats 4000000 in
set_option maxRecDepth 100000 in
theorem ct_X2_spot {a b c : Int} {g : AG} : MetI yX2_spot wsX2_spot rmX2_spot ShW [.inl a, .inl b, .inl c] g (fun x g' => g' = g ∧ x = (a * 21 + b + 10) * 21 + c + 10) := by
  refine metI_of (cc := cX2_spot) (nL := 3) false (by decide +kernel) rfl (Nat.le_of_ble_eq_true rfl) (fun q J C => ?_)
  show J q ShW 0 0 0 [some (.inl a), some (.inl b), some (.inl c)] [] g
  refine j_wf C (fun hw => ?_)
  refine j_iload_n C dX2_spot_0 rfl ?_
  refine j_bipush C dX2_spot_1 (by decide +kernel) ?_
  refine j_imul C dX2_spot_3 ?_
  refine j_iload_n C dX2_spot_4 rfl ?_
  refine j_iadd C dX2_spot_5 ?_
  refine j_bipush C dX2_spot_6 (by decide +kernel) ?_
  refine j_iadd C dX2_spot_8 ?_
  refine j_bipush C dX2_spot_9 (by decide +kernel) ?_
  refine j_imul C dX2_spot_11 ?_
  refine j_iload_n C dX2_spot_12 rfl ?_
  refine j_iadd C dX2_spot_13 ?_
  refine j_bipush C dX2_spot_14 (by decide +kernel) ?_
  refine j_iadd C dX2_spot_16 ?_
  refine j_iretI C dX2_spot_17 (by intro h; cases h) (fun hw9 => ?_)
  exact ⟨rfl, rfl⟩
set_option maxHeartbeats 4000000 in
set_option maxRecDepth 100000 in
theorem ct_X2_together {a b s : Int} {g : AG} (h : aR a ∧ aR b ∧ (s = 0 ∨ s = 1)) : MetI yX2_together wsX2_together rmX2_together ShW [.inl a, .inl b, .inl s] g (fun x g' => g' = g ∧ x = tog s a b) := by
  refine metI_of (cc := cX2_together) (nL := 3) false (by decide +kernel) rfl (Nat.le_of_ble_eq_true rfl) (fun q J C => ?_)
  show J q ShW 0 0 0 [some (.inl a), some (.inl b), some (.inl s)] [] g
  refine j_wf C (fun hw => ?_)
  obtain ⟨h1, h2, h3⟩ := h
  refine j_iload_n C dX2_together_0 rfl ?_
  refine j_if_eq C (tgt := 10) dX2_together_1 (by decide) (by first | exact h1 | exact h2 | omega | (refine ⟨?_, ?_⟩ <;> omega)) (fun c_1 => ?_) (fun c_1 => ?_)
  · refine j_iload_n C dX2_together_10 rfl ?_
    refine j_iload_n C dX2_together_11 rfl ?_
    refine j_mmax C vX2_together_63 rfl (by refine ⟨?_, ?_, ?_, ?_⟩ <;> decide) dX2_together_12 (by first | exact h1 | exact h2 | omega | (refine ⟨?_, ?_⟩ <;> omega)) (by first | exact h1 | exact h2 | omega | (refine ⟨?_, ?_⟩ <;> omega)) ?_
    refine j_iretI C dX2_together_15 (by intro h; cases h) (fun hw9 => ?_)
    exact ⟨rfl, by unfold tog; first | rw [if_pos c_1] | rw [if_neg c_1]⟩
  · refine j_iload_n C dX2_together_4 rfl ?_
    refine j_iload_n C dX2_together_5 rfl ?_
    refine j_iadd C dX2_together_6 ?_
    refine j_goto C (tgt := 15) dX2_together_7 (by decide) ?_
    refine j_iretI C dX2_together_15 (by intro h; cases h) (fun hw9 => ?_)
    exact ⟨rfl, by unfold tog; first | rw [if_pos c_1] | rw [if_neg c_1]⟩
set_option maxHeartbeats 4000000 in
set_option maxRecDepth 100000 in
theorem ct_X5_with {k a b : Int} {g : AG} (h : aR a ∧ aR b ∧ (k = 0 ∨ k = 1)) : MetI yX5_with wsX5_with rmX5_with ShW [.inl k, .inl a, .inl b] g (fun x g' => g' = g ∧ x = tog (if k = 0 then 1 else 0) a b) := by
  refine metI_of (cc := cX5_with) (nL := 3) false (by decide +kernel) rfl (Nat.le_of_ble_eq_true rfl) (fun q J C => ?_)
  show J q ShW 0 0 0 [some (.inl k), some (.inl a), some (.inl b)] [] g
  refine j_wf C (fun hw => ?_)
  obtain ⟨h1, h2, h3⟩ := h
  refine j_iload_n C dX5_with_0 rfl ?_
  refine j_if_ne C (tgt := 10) dX5_with_1 (by decide) (by first | exact h1 | exact h2 | omega | (refine ⟨?_, ?_⟩ <;> omega)) (fun c_1 => ?_) (fun c_1 => ?_)
  · refine j_iload_n C dX5_with_10 rfl ?_
    refine j_iload_n C dX5_with_11 rfl ?_
    refine j_icmp_le C (tgt := 19) dX5_with_12 (by decide) (by first | exact h1 | exact h2 | omega | (refine ⟨?_, ?_⟩ <;> omega)) (by first | exact h1 | exact h2 | omega | (refine ⟨?_, ?_⟩ <;> omega)) (fun c_12 => ?_) (fun c_12 => ?_)
    · refine j_iload_n C dX5_with_19 rfl ?_
      refine j_iretI C dX5_with_20 (by intro h; cases h) (fun hw9 => ?_)
      refine ⟨rfl, ?_⟩
      unfold tog
      first
      | (rw [if_pos c_1, if_neg (by decide)]; done)
      | (rw [if_neg c_1, if_pos rfl]; omega)
    · refine j_iload_n C dX5_with_15 rfl ?_
      refine j_goto C (tgt := 20) dX5_with_16 (by decide) ?_
      refine j_iretI C dX5_with_20 (by intro h; cases h) (fun hw9 => ?_)
      refine ⟨rfl, ?_⟩
      unfold tog
      first
      | (rw [if_pos c_1, if_neg (by decide)]; done)
      | (rw [if_neg c_1, if_pos rfl]; omega)
  · refine j_iload_n C dX5_with_4 rfl ?_
    refine j_iload_n C dX5_with_5 rfl ?_
    refine j_iadd C dX5_with_6 ?_
    refine j_goto C (tgt := 20) dX5_with_7 (by decide) ?_
    refine j_iretI C dX5_with_20 (by intro h; cases h) (fun hw9 => ?_)
    refine ⟨rfl, ?_⟩
    unfold tog
    first
    | (rw [if_pos c_1, if_neg (by decide)]; done)
    | (rw [if_neg c_1, if_pos rfl]; omega)
set_option maxHeartbeats 4000000 in
set_option maxRecDepth 100000 in
theorem ct_X2_errorOf {p : Int} {g : AG} (h : LX g ∧ 0 ≤ p ∧ p < g 8 2) : MetI yX2_errorOf wsX2_errorOf rmX2_errorOf ShW [.inr 8, .inl p] g (fun x g' => g' = g ∧ x = eP (g 9) (g 10) (g 8 5) (g 8 6) (g 8 2) p) := by
  refine metI_of (cc := cX2_errorOf) (nL := 3) false (by decide +kernel) rfl (Nat.le_of_ble_eq_true rfl) (fun q J C => ?_)
  show J q ShW 0 0 0 [some (.inr 8), some (.inl p), none] [] g
  refine j_wf C (fun hw => ?_)
  obtain ⟨hL, h1, h2⟩ := h
  have hn := hL.1
  refine j_aload_n C dX2_errorOf_0 rfl ?_
  refine j_getR C fX2_errorOf_9 rfl rfl dX2_errorOf_1 ?_
  refine j_iload_n C dX2_errorOf_4 rfl ?_
  refine j_iaload C rfl (by decide) dX2_errorOf_5 (by first | omega | (refine ⟨?_, ?_⟩ <;> omega) | exact hw _ _ | exact nrm_R _) (by first | omega | (refine ⟨?_, ?_⟩ <;> omega) | exact hw _ _ | exact nrm_R _) ?_
  refine j_aload_n C dX2_errorOf_6 rfl ?_
  refine j_getI C fX2_errorOf_28 rfl rfl dX2_errorOf_7 ?_
  refine j_aload_n C dX2_errorOf_10 rfl ?_
  refine j_getR C fX2_errorOf_15 rfl rfl dX2_errorOf_11 ?_
  refine j_iload_n C dX2_errorOf_14 rfl ?_
  refine j_iaload C rfl (by decide) dX2_errorOf_15 (by first | omega | (refine ⟨?_, ?_⟩ <;> omega) | exact hw _ _ | exact nrm_R _) (by first | omega | (refine ⟨?_, ?_⟩ <;> omega) | exact hw _ _ | exact nrm_R _) ?_
  refine j_imul C dX2_errorOf_16 ?_
  refine j_iadd C dX2_errorOf_17 ?_
  refine j_istore_n C dX2_errorOf_18 (Nat.le_of_ble_eq_true rfl) ?_
  dsimp only [List.set]
  refine j_iload_n C dX2_errorOf_19 rfl ?_
  refine j_if_le C (tgt := 39) dX2_errorOf_20 (by decide) (by first | omega | (refine ⟨?_, ?_⟩ <;> omega) | exact hw _ _ | exact nrm_R _) (fun c_20 => ?_) (fun c_20 => ?_)
  · refine j_iload_n C dX2_errorOf_39 rfl ?_
    refine j_aload_n C dX2_errorOf_40 rfl ?_
    refine j_getI C fX2_errorOf_18 rfl rfl dX2_errorOf_41 ?_
    refine j_iconst C dX2_errorOf_44 ?_
    refine j_isub C dX2_errorOf_45 ?_
    refine j_icmp_ge C (tgt := 65) dX2_errorOf_46 (by decide) (by first | omega | (refine ⟨?_, ?_⟩ <;> omega) | exact hw _ _ | exact nrm_R _) (by first | omega | (refine ⟨?_, ?_⟩ <;> omega) | exact hw _ _ | exact nrm_R _) (fun c_46 => ?_) (fun c_46 => ?_)
    · refine j_iload_n C dX2_errorOf_65 rfl ?_
      refine j_iretI C dX2_errorOf_66 (by intro h; cases h) (fun hw9 => ?_)
      refine ⟨rfl, ?_⟩
      unfold eP
      by_cases q1 : 0 < p
      · by_cases q2 : p < g 8 2 - 1
        · rw [if_pos q1, if_pos q2]
          all_goals first | rfl | omega
        · rw [if_pos q1, if_neg q2]
          all_goals first | rfl | omega
      · by_cases q2 : p < g 8 2 - 1
        · rw [if_neg q1, if_pos q2]
          all_goals first | rfl | omega
        · rw [if_neg q1, if_neg q2]
          all_goals first | rfl | omega
    · refine j_iload_n C dX2_errorOf_49 rfl ?_
      refine j_aload_n C dX2_errorOf_50 rfl ?_
      refine j_getI C fX2_errorOf_40 rfl rfl dX2_errorOf_51 ?_
      refine j_aload_n C dX2_errorOf_54 rfl ?_
      refine j_getR C fX2_errorOf_15 rfl rfl dX2_errorOf_55 ?_
      refine j_iload_n C dX2_errorOf_58 rfl ?_
      refine j_iconst C dX2_errorOf_59 ?_
      refine j_iadd C dX2_errorOf_60 ?_
      refine j_iaload C rfl (by decide) dX2_errorOf_61 (by first | omega | (refine ⟨?_, ?_⟩ <;> omega) | exact hw _ _ | exact nrm_R _) (by first | omega | (refine ⟨?_, ?_⟩ <;> omega) | exact hw _ _ | exact nrm_R _) ?_
      refine j_imul C dX2_errorOf_62 ?_
      refine j_iadd C dX2_errorOf_63 ?_
      refine j_istore_n C dX2_errorOf_64 (Nat.le_of_ble_eq_true rfl) ?_
      dsimp only [List.set]
      refine j_iload_n C dX2_errorOf_65 rfl ?_
      refine j_iretI C dX2_errorOf_66 (by intro h; cases h) (fun hw9 => ?_)
      refine ⟨rfl, ?_⟩
      unfold eP
      by_cases q1 : 0 < p
      · by_cases q2 : p < g 8 2 - 1
        · rw [if_pos q1, if_pos q2]
          all_goals first | rfl | omega
        · rw [if_pos q1, if_neg q2]
          all_goals first | rfl | omega
      · by_cases q2 : p < g 8 2 - 1
        · rw [if_neg q1, if_pos q2]
          all_goals first | rfl | omega
        · rw [if_neg q1, if_neg q2]
          all_goals first | rfl | omega
  · refine j_iload_n C dX2_errorOf_23 rfl ?_
    refine j_aload_n C dX2_errorOf_24 rfl ?_
    refine j_getI C fX2_errorOf_40 rfl rfl dX2_errorOf_25 ?_
    refine j_aload_n C dX2_errorOf_28 rfl ?_
    refine j_getR C fX2_errorOf_15 rfl rfl dX2_errorOf_29 ?_
    refine j_iload_n C dX2_errorOf_32 rfl ?_
    refine j_iconst C dX2_errorOf_33 ?_
    refine j_isub C dX2_errorOf_34 ?_
    refine j_iaload C rfl (by decide) dX2_errorOf_35 (by first | omega | (refine ⟨?_, ?_⟩ <;> omega) | exact hw _ _ | exact nrm_R _) (by first | omega | (refine ⟨?_, ?_⟩ <;> omega) | exact hw _ _ | exact nrm_R _) ?_
    refine j_imul C dX2_errorOf_36 ?_
    refine j_iadd C dX2_errorOf_37 ?_
    refine j_istore_n C dX2_errorOf_38 (Nat.le_of_ble_eq_true rfl) ?_
    dsimp only [List.set]
    refine j_iload_n C dX2_errorOf_39 rfl ?_
    refine j_aload_n C dX2_errorOf_40 rfl ?_
    refine j_getI C fX2_errorOf_18 rfl rfl dX2_errorOf_41 ?_
    refine j_iconst C dX2_errorOf_44 ?_
    refine j_isub C dX2_errorOf_45 ?_
    refine j_icmp_ge C (tgt := 65) dX2_errorOf_46 (by decide) (by first | omega | (refine ⟨?_, ?_⟩ <;> omega) | exact hw _ _ | exact nrm_R _) (by first | omega | (refine ⟨?_, ?_⟩ <;> omega) | exact hw _ _ | exact nrm_R _) (fun c_46 => ?_) (fun c_46 => ?_)
    · refine j_iload_n C dX2_errorOf_65 rfl ?_
      refine j_iretI C dX2_errorOf_66 (by intro h; cases h) (fun hw9 => ?_)
      refine ⟨rfl, ?_⟩
      unfold eP
      by_cases q1 : 0 < p
      · by_cases q2 : p < g 8 2 - 1
        · rw [if_pos q1, if_pos q2]
          all_goals first | rfl | omega
        · rw [if_pos q1, if_neg q2]
          all_goals first | rfl | omega
      · by_cases q2 : p < g 8 2 - 1
        · rw [if_neg q1, if_pos q2]
          all_goals first | rfl | omega
        · rw [if_neg q1, if_neg q2]
          all_goals first | rfl | omega
    · refine j_iload_n C dX2_errorOf_49 rfl ?_
      refine j_aload_n C dX2_errorOf_50 rfl ?_
      refine j_getI C fX2_errorOf_40 rfl rfl dX2_errorOf_51 ?_
      refine j_aload_n C dX2_errorOf_54 rfl ?_
      refine j_getR C fX2_errorOf_15 rfl rfl dX2_errorOf_55 ?_
      refine j_iload_n C dX2_errorOf_58 rfl ?_
      refine j_iconst C dX2_errorOf_59 ?_
      refine j_iadd C dX2_errorOf_60 ?_
      refine j_iaload C rfl (by decide) dX2_errorOf_61 (by first | omega | (refine ⟨?_, ?_⟩ <;> omega) | exact hw _ _ | exact nrm_R _) (by first | omega | (refine ⟨?_, ?_⟩ <;> omega) | exact hw _ _ | exact nrm_R _) ?_
      refine j_imul C dX2_errorOf_62 ?_
      refine j_iadd C dX2_errorOf_63 ?_
      refine j_istore_n C dX2_errorOf_64 (Nat.le_of_ble_eq_true rfl) ?_
      dsimp only [List.set]
      refine j_iload_n C dX2_errorOf_65 rfl ?_
      refine j_iretI C dX2_errorOf_66 (by intro h; cases h) (fun hw9 => ?_)
      refine ⟨rfl, ?_⟩
      unfold eP
      by_cases q1 : 0 < p
      · by_cases q2 : p < g 8 2 - 1
        · rw [if_pos q1, if_pos q2]
          all_goals first | rfl | omega
        · rw [if_pos q1, if_neg q2]
          all_goals first | rfl | omega
      · by_cases q2 : p < g 8 2 - 1
        · rw [if_neg q1, if_pos q2]
          all_goals first | rfl | omega
        · rw [if_neg q1, if_neg q2]
          all_goals first | rfl | omega
set_option maxHeartbeats 4000000 in
set_option maxRecDepth 100000 in
theorem ct_X2_sizeOf {p : Int} {g : AG} (h : LX g ∧ 0 ≤ p ∧ p < g 8 2) : MetI yX2_sizeOf wsX2_sizeOf rmX2_sizeOf ShW [.inr 8, .inl p] g (fun x g' => g' = g ∧ x = szX g p) := by
  refine metI_of (cc := cX2_sizeOf) (nL := 2) false (by decide +kernel) rfl (Nat.le_of_ble_eq_true rfl) (fun q J C => ?_)
  show J q ShW 0 0 0 [some (.inr 8), some (.inl p)] [] g
  refine j_wf C (fun hw => ?_)
  have hE := eP_b h.1 p
  refine j_aload_n C dX2_sizeOf_0 rfl ?_
  refine j_iload_n C dX2_sizeOf_1 rfl ?_
  refine j_callVi1 C vX2_sizeOf_53 rfl rfl (Nat.le_of_ble_eq_true rfl) ⟨Nat.zero_le _, Nat.zero_le _⟩ dX2_sizeOf_2 (ct_X2_errorOf h) (fun x_2 g_2 hk_2 => ?_)
  obtain ⟨e_2, rfl⟩ := hk_2
  have e_2 := e_2.symm
  subst e_2
  refine j_mabs C vX2_sizeOf_47 rfl (by refine ⟨?_, ?_, ?_, ?_⟩ <;> decide) dX2_sizeOf_5 (by first | omega | (refine ⟨?_, ?_⟩ <;> omega) | exact hw _ _ | exact nrm_R _) (by first | omega | (refine ⟨?_, ?_⟩ <;> omega) | exact hw _ _ | exact nrm_R _) ?_
  refine j_iretI C dX2_sizeOf_8 (by intro h; cases h) (fun hw9 => ?_)
  exact ⟨rfl, rfl⟩
set_option maxHeartbeats 4000000 in
set_option maxRecDepth 100000 in
theorem ct_X5_error {p : Int} {g : AG} (h : LM g ∧ 0 ≤ p ∧ p < g 21 0) : MetI yX5_error wsX5_error rmX5_error ShW [.inr 21, .inl p] g (fun x g' => g' = g ∧ x = eP (g 28) (g 29) (g 21 12) (g 21 13) (g 21 0) p) := by
  refine metI_of (cc := cX5_error) (nL := 4) false (by decide +kernel) rfl (Nat.le_of_ble_eq_true rfl) (fun q J C => ?_)
  show J q ShW 0 0 0 [some (.inr 21), some (.inl p), none, none] [] g
  refine j_wf C (fun hw => ?_)
  obtain ⟨hL, h1, h2⟩ := h
  have hn := hL.1
  refine j_iload_n C dX5_error_0 rfl ?_
  refine j_if_le C (tgt := 15) dX5_error_1 (by decide) (by first | omega | (refine ⟨?_, ?_⟩ <;> omega) | exact hw _ _ | exact nrm_R _) (fun c_1 => ?_) (fun c_1 => ?_)
  · refine j_iconst C dX5_error_15 ?_
    refine j_istore_n C dX5_error_16 (Nat.le_of_ble_eq_true rfl) ?_
    dsimp only [List.set]
    refine j_iload_n C dX5_error_17 rfl ?_
    refine j_iconst C dX5_error_18 ?_
    refine j_iadd C dX5_error_19 ?_
    refine j_aload_n C dX5_error_20 rfl ?_
    refine j_getI C fX5_error_7 rfl rfl dX5_error_21 ?_
    refine j_icmp_ge C (tgt := 38) dX5_error_24 (by decide) (by first | omega | (refine ⟨?_, ?_⟩ <;> omega) | exact hw _ _ | exact nrm_R _) (by first | omega | (refine ⟨?_, ?_⟩ <;> omega) | exact hw _ _ | exact nrm_R _) (fun c_24 => ?_) (fun c_24 => ?_)
    · refine j_iconst C dX5_error_38 ?_
      refine j_istore_n C dX5_error_39 (Nat.le_of_ble_eq_true rfl) ?_
      dsimp only [List.set]
      refine j_aload_n C dX5_error_40 rfl ?_
      refine j_getR C fX5_error_33 rfl rfl dX5_error_41 ?_
      refine j_iload_n C dX5_error_44 rfl ?_
      refine j_iaload C rfl (by decide) dX5_error_45 (by first | omega | (refine ⟨?_, ?_⟩ <;> omega) | exact hw _ _ | exact nrm_R _) (by first | omega | (refine ⟨?_, ?_⟩ <;> omega) | exact hw _ _ | exact nrm_R _) ?_
      refine j_aload_n C dX5_error_46 rfl ?_
      refine j_getI C fX5_error_45 rfl rfl dX5_error_47 ?_
      refine j_aload_n C dX5_error_50 rfl ?_
      refine j_getR C fX5_error_36 rfl rfl dX5_error_51 ?_
      refine j_iload_n C dX5_error_54 rfl ?_
      refine j_iaload C rfl (by decide) dX5_error_55 (by first | omega | (refine ⟨?_, ?_⟩ <;> omega) | exact hw _ _ | exact nrm_R _) (by first | omega | (refine ⟨?_, ?_⟩ <;> omega) | exact hw _ _ | exact nrm_R _) ?_
      refine j_imul C dX5_error_56 ?_
      refine j_iadd C dX5_error_57 ?_
      refine j_aload_n C dX5_error_58 rfl ?_
      refine j_getI C fX5_error_106 rfl rfl dX5_error_59 ?_
      refine j_iload_n C dX5_error_62 rfl ?_
      refine j_iload_n C dX5_error_63 rfl ?_
      refine j_iadd C dX5_error_64 ?_
      refine j_imul C dX5_error_65 ?_
      refine j_iadd C dX5_error_66 ?_
      refine j_iretI C dX5_error_67 (by intro h; cases h) (fun hw9 => ?_)
      refine ⟨rfl, ?_⟩
      unfold eP
      by_cases q1 : 0 < p
      · by_cases q2 : p < g 21 0 - 1
        · rw [if_pos q1, if_pos q2]
          first | (rw [Int.mul_add]; omega) | omega
        · rw [if_pos q1, if_neg q2]
          first | (rw [Int.mul_add]; omega) | omega
      · by_cases q2 : p < g 21 0 - 1
        · rw [if_neg q1, if_pos q2]
          first | (rw [Int.mul_add]; omega) | omega
        · rw [if_neg q1, if_neg q2]
          first | (rw [Int.mul_add]; omega) | omega
    · refine j_aload_n C dX5_error_27 rfl ?_
      refine j_getR C fX5_error_36 rfl rfl dX5_error_28 ?_
      refine j_iload_n C dX5_error_31 rfl ?_
      refine j_iconst C dX5_error_32 ?_
      refine j_iadd C dX5_error_33 ?_
      refine j_iaload C rfl (by decide) dX5_error_34 (by first | omega | (refine ⟨?_, ?_⟩ <;> omega) | exact hw _ _ | exact nrm_R _) (by first | omega | (refine ⟨?_, ?_⟩ <;> omega) | exact hw _ _ | exact nrm_R _) ?_
      refine j_goto C (tgt := 39) dX5_error_35 (by decide) ?_
      refine j_istore_n C dX5_error_39 (Nat.le_of_ble_eq_true rfl) ?_
      dsimp only [List.set]
      refine j_aload_n C dX5_error_40 rfl ?_
      refine j_getR C fX5_error_33 rfl rfl dX5_error_41 ?_
      refine j_iload_n C dX5_error_44 rfl ?_
      refine j_iaload C rfl (by decide) dX5_error_45 (by first | omega | (refine ⟨?_, ?_⟩ <;> omega) | exact hw _ _ | exact nrm_R _) (by first | omega | (refine ⟨?_, ?_⟩ <;> omega) | exact hw _ _ | exact nrm_R _) ?_
      refine j_aload_n C dX5_error_46 rfl ?_
      refine j_getI C fX5_error_45 rfl rfl dX5_error_47 ?_
      refine j_aload_n C dX5_error_50 rfl ?_
      refine j_getR C fX5_error_36 rfl rfl dX5_error_51 ?_
      refine j_iload_n C dX5_error_54 rfl ?_
      refine j_iaload C rfl (by decide) dX5_error_55 (by first | omega | (refine ⟨?_, ?_⟩ <;> omega) | exact hw _ _ | exact nrm_R _) (by first | omega | (refine ⟨?_, ?_⟩ <;> omega) | exact hw _ _ | exact nrm_R _) ?_
      refine j_imul C dX5_error_56 ?_
      refine j_iadd C dX5_error_57 ?_
      refine j_aload_n C dX5_error_58 rfl ?_
      refine j_getI C fX5_error_106 rfl rfl dX5_error_59 ?_
      refine j_iload_n C dX5_error_62 rfl ?_
      refine j_iload_n C dX5_error_63 rfl ?_
      refine j_iadd C dX5_error_64 ?_
      refine j_imul C dX5_error_65 ?_
      refine j_iadd C dX5_error_66 ?_
      refine j_iretI C dX5_error_67 (by intro h; cases h) (fun hw9 => ?_)
      refine ⟨rfl, ?_⟩
      unfold eP
      by_cases q1 : 0 < p
      · by_cases q2 : p < g 21 0 - 1
        · rw [if_pos q1, if_pos q2]
          first | (rw [Int.mul_add]; omega) | omega
        · rw [if_pos q1, if_neg q2]
          first | (rw [Int.mul_add]; omega) | omega
      · by_cases q2 : p < g 21 0 - 1
        · rw [if_neg q1, if_pos q2]
          first | (rw [Int.mul_add]; omega) | omega
        · rw [if_neg q1, if_neg q2]
          first | (rw [Int.mul_add]; omega) | omega
  · refine j_aload_n C dX5_error_4 rfl ?_
    refine j_getR C fX5_error_36 rfl rfl dX5_error_5 ?_
    refine j_iload_n C dX5_error_8 rfl ?_
    refine j_iconst C dX5_error_9 ?_
    refine j_isub C dX5_error_10 ?_
    refine j_iaload C rfl (by decide) dX5_error_11 (by first | omega | (refine ⟨?_, ?_⟩ <;> omega) | exact hw _ _ | exact nrm_R _) (by first | omega | (refine ⟨?_, ?_⟩ <;> omega) | exact hw _ _ | exact nrm_R _) ?_
    refine j_goto C (tgt := 16) dX5_error_12 (by decide) ?_
    refine j_istore_n C dX5_error_16 (Nat.le_of_ble_eq_true rfl) ?_
    dsimp only [List.set]
    refine j_iload_n C dX5_error_17 rfl ?_
    refine j_iconst C dX5_error_18 ?_
    refine j_iadd C dX5_error_19 ?_
    refine j_aload_n C dX5_error_20 rfl ?_
    refine j_getI C fX5_error_7 rfl rfl dX5_error_21 ?_
    refine j_icmp_ge C (tgt := 38) dX5_error_24 (by decide) (by first | omega | (refine ⟨?_, ?_⟩ <;> omega) | exact hw _ _ | exact nrm_R _) (by first | omega | (refine ⟨?_, ?_⟩ <;> omega) | exact hw _ _ | exact nrm_R _) (fun c_24 => ?_) (fun c_24 => ?_)
    · refine j_iconst C dX5_error_38 ?_
      refine j_istore_n C dX5_error_39 (Nat.le_of_ble_eq_true rfl) ?_
      dsimp only [List.set]
      refine j_aload_n C dX5_error_40 rfl ?_
      refine j_getR C fX5_error_33 rfl rfl dX5_error_41 ?_
      refine j_iload_n C dX5_error_44 rfl ?_
      refine j_iaload C rfl (by decide) dX5_error_45 (by first | omega | (refine ⟨?_, ?_⟩ <;> omega) | exact hw _ _ | exact nrm_R _) (by first | omega | (refine ⟨?_, ?_⟩ <;> omega) | exact hw _ _ | exact nrm_R _) ?_
      refine j_aload_n C dX5_error_46 rfl ?_
      refine j_getI C fX5_error_45 rfl rfl dX5_error_47 ?_
      refine j_aload_n C dX5_error_50 rfl ?_
      refine j_getR C fX5_error_36 rfl rfl dX5_error_51 ?_
      refine j_iload_n C dX5_error_54 rfl ?_
      refine j_iaload C rfl (by decide) dX5_error_55 (by first | omega | (refine ⟨?_, ?_⟩ <;> omega) | exact hw _ _ | exact nrm_R _) (by first | omega | (refine ⟨?_, ?_⟩ <;> omega) | exact hw _ _ | exact nrm_R _) ?_
      refine j_imul C dX5_error_56 ?_
      refine j_iadd C dX5_error_57 ?_
      refine j_aload_n C dX5_error_58 rfl ?_
      refine j_getI C fX5_error_106 rfl rfl dX5_error_59 ?_
      refine j_iload_n C dX5_error_62 rfl ?_
      refine j_iload_n C dX5_error_63 rfl ?_
      refine j_iadd C dX5_error_64 ?_
      refine j_imul C dX5_error_65 ?_
      refine j_iadd C dX5_error_66 ?_
      refine j_iretI C dX5_error_67 (by intro h; cases h) (fun hw9 => ?_)
      refine ⟨rfl, ?_⟩
      unfold eP
      by_cases q1 : 0 < p
      · by_cases q2 : p < g 21 0 - 1
        · rw [if_pos q1, if_pos q2]
          first | (rw [Int.mul_add]; omega) | omega
        · rw [if_pos q1, if_neg q2]
          first | (rw [Int.mul_add]; omega) | omega
      · by_cases q2 : p < g 21 0 - 1
        · rw [if_neg q1, if_pos q2]
          first | (rw [Int.mul_add]; omega) | omega
        · rw [if_neg q1, if_neg q2]
          first | (rw [Int.mul_add]; omega) | omega
    · refine j_aload_n C dX5_error_27 rfl ?_
      refine j_getR C fX5_error_36 rfl rfl dX5_error_28 ?_
      refine j_iload_n C dX5_error_31 rfl ?_
      refine j_iconst C dX5_error_32 ?_
      refine j_iadd C dX5_error_33 ?_
      refine j_iaload C rfl (by decide) dX5_error_34 (by first | omega | (refine ⟨?_, ?_⟩ <;> omega) | exact hw _ _ | exact nrm_R _) (by first | omega | (refine ⟨?_, ?_⟩ <;> omega) | exact hw _ _ | exact nrm_R _) ?_
      refine j_goto C (tgt := 39) dX5_error_35 (by decide) ?_
      refine j_istore_n C dX5_error_39 (Nat.le_of_ble_eq_true rfl) ?_
      dsimp only [List.set]
      refine j_aload_n C dX5_error_40 rfl ?_
      refine j_getR C fX5_error_33 rfl rfl dX5_error_41 ?_
      refine j_iload_n C dX5_error_44 rfl ?_
      refine j_iaload C rfl (by decide) dX5_error_45 (by first | omega | (refine ⟨?_, ?_⟩ <;> omega) | exact hw _ _ | exact nrm_R _) (by first | omega | (refine ⟨?_, ?_⟩ <;> omega) | exact hw _ _ | exact nrm_R _) ?_
      refine j_aload_n C dX5_error_46 rfl ?_
      refine j_getI C fX5_error_45 rfl rfl dX5_error_47 ?_
      refine j_aload_n C dX5_error_50 rfl ?_
      refine j_getR C fX5_error_36 rfl rfl dX5_error_51 ?_
      refine j_iload_n C dX5_error_54 rfl ?_
      refine j_iaload C rfl (by decide) dX5_error_55 (by first | omega | (refine ⟨?_, ?_⟩ <;> omega) | exact hw _ _ | exact nrm_R _) (by first | omega | (refine ⟨?_, ?_⟩ <;> omega) | exact hw _ _ | exact nrm_R _) ?_
      refine j_imul C dX5_error_56 ?_
      refine j_iadd C dX5_error_57 ?_
      refine j_aload_n C dX5_error_58 rfl ?_
      refine j_getI C fX5_error_106 rfl rfl dX5_error_59 ?_
      refine j_iload_n C dX5_error_62 rfl ?_
      refine j_iload_n C dX5_error_63 rfl ?_
      refine j_iadd C dX5_error_64 ?_
      refine j_imul C dX5_error_65 ?_
      refine j_iadd C dX5_error_66 ?_
      refine j_iretI C dX5_error_67 (by intro h; cases h) (fun hw9 => ?_)
      refine ⟨rfl, ?_⟩
      unfold eP
      by_cases q1 : 0 < p
      · by_cases q2 : p < g 21 0 - 1
        · rw [if_pos q1, if_pos q2]
          first | (rw [Int.mul_add]; omega) | omega
        · rw [if_pos q1, if_neg q2]
          first | (rw [Int.mul_add]; omega) | omega
      · by_cases q2 : p < g 21 0 - 1
        · rw [if_neg q1, if_pos q2]
          first | (rw [Int.mul_add]; omega) | omega
        · rw [if_neg q1, if_neg q2]
          first | (rw [Int.mul_add]; omega) | omega
set_option maxHeartbeats 4000000 in
set_option maxRecDepth 100000 in
theorem ct_X2_unevenness {s : Int} {g : AG} (h : LX g ∧ (s = 0 ∨ s = 1)) : MetI yX2_unevenness wsX2_unevenness rmX2_unevenness ShW [.inr 8, .inl s] g (fun x g' => g' = g ∧ x = unv s (fun j => szX g (j : Int)) (g 8 2).toNat) := by
  refine metI_of (cc := cX2_unevenness) (nL := 4) false (by decide +kernel) rfl (Nat.le_of_ble_eq_true rfl) (fun q J C => ?_)
  show J q ShW 0 0 0 [some (.inr 8), some (.inl s), none, none] [] g
  refine j_wf C (fun hw => ?_)
  obtain ⟨hL, hs⟩ := h
  have hn := hL.1
  have lp : ∀ k : Nat, ∀ (i : Int), (g 8 2 - i).toNat = k → 0 ≤ i → i ≤ g 8 2 → J q ShW 0 0 4 [some (.inr 8), some (.inl s), some (.inl (unv s (fun j => szX g (j : Int)) i.toNat)), some (.inl i)] [] g := by
    refine byN _ (fun k ih i hn2 h0 h1 => ?_)
    have hu := unv_b (s := s) (fun j => szX_b hL ((j : Nat) : Int)) i.toNat
    have hz := szX_b hL i
    refine j_iload_n C dX2_unevenness_4 rfl ?_
    refine j_aload_n C dX2_unevenness_5 rfl ?_
    refine j_getI C fX2_unevenness_18 rfl rfl dX2_unevenness_6 ?_
    refine j_icmp_ge C (tgt := 29) dX2_unevenness_9 (by decide) (by first | omega | (refine ⟨?_, ?_⟩ <;> omega) | exact hw _ _ | exact nrm_R _) (by first | omega | (refine ⟨?_, ?_⟩ <;> omega) | exact hw _ _ | exact nrm_R _) (fun c_9 => ?_) (fun c_9 => ?_)
    · refine j_iload_n C dX2_unevenness_29 rfl ?_
      refine j_iretI C dX2_unevenness_30 (by intro h; cases h) (fun hw9 => ?_)
      exact ⟨rfl, by rw [show i.toNat = (g 8 2).toNat by omega]⟩
    · refine j_iload_n C dX2_unevenness_12 rfl ?_
      refine j_aload_n C dX2_unevenness_13 rfl ?_
      refine j_iload_n C dX2_unevenness_14 rfl ?_
      refine j_callVi1 C vX2_unevenness_56 rfl rfl (Nat.le_of_ble_eq_true rfl) ⟨Nat.zero_le _, Nat.zero_le _⟩ dX2_unevenness_15 (ct_X2_sizeOf ⟨hL, by omega, by omega⟩) (fun x_15 g_15 hk_15 => ?_)
      obtain ⟨e_15, rfl⟩ := hk_15
      have e_15 := e_15.symm
      subst e_15
      refine j_iload_n C dX2_unevenness_18 rfl ?_
      refine j_callSi3 C vX2_unevenness_59 rfl (Nat.le_of_ble_eq_true rfl) ⟨Nat.zero_le _, Nat.zero_le _⟩ dX2_unevenness_19 (ct_X2_together ⟨⟨by omega, by omega⟩, ⟨by omega, by omega⟩, hs⟩) (fun x_19 g_19 hk_19 => ?_)
      obtain ⟨e_19, rfl⟩ := hk_19
      have e_19 := e_19.symm
      subst e_19
      refine j_istore_n C dX2_unevenness_22 (Nat.le_of_ble_eq_true rfl) ?_
      dsimp only [List.set]
      refine j_iinc C dX2_unevenness_23 rfl ?_
      dsimp only [List.set]
      refine j_goto C (tgt := 4) dX2_unevenness_26 (by decide) ?_
      refine j_cast (ih _ (by omega) (i + 1) rfl (by omega) (by omega)) ?_ rfl rfl
      rw [show (i + 1).toNat = i.toNat + 1 by omega, unv, show ((i.toNat : Nat) : Int) = i by omega]
  refine j_iconst C dX2_unevenness_0 ?_
  refine j_istore_n C dX2_unevenness_1 (Nat.le_of_ble_eq_true rfl) ?_
  dsimp only [List.set]
  refine j_iconst C dX2_unevenness_2 ?_
  refine j_istore_n C dX2_unevenness_3 (Nat.le_of_ble_eq_true rfl) ?_
  dsimp only [List.set]
  exact lp _ 0 rfl (by omega) (by omega)
set_option maxHeartbeats 4000000 in
set_option maxRecDepth 100000 in
theorem ct_X5_unevenOf {k : Int} {g : AG} (h : LM g ∧ (k = 0 ∨ k = 1)) : MetI yX5_unevenOf wsX5_unevenOf rmX5_unevenOf ShW [.inr 21, .inl k] g (fun x g' => g' = g ∧ x = unv (if k = 0 then 1 else 0) (fun j => szM g (j : Int)) (g 21 0).toNat) := by
  refine metI_of (cc := cX5_unevenOf) (nL := 4) false (by decide +kernel) rfl (Nat.le_of_ble_eq_true rfl) (fun q J C => ?_)
  show J q ShW 0 0 0 [some (.inr 21), some (.inl k), none, none] [] g
  refine j_wf C (fun hw => ?_)
  obtain ⟨hL, hs⟩ := h
  have hn := hL.1
  have lp : ∀ n : Nat, ∀ (i : Int), (g 21 0 - i).toNat = n → 0 ≤ i → i ≤ g 21 0 → J q ShW 0 0 4 [some (.inr 21), some (.inl k), some (.inl (unv (if k = 0 then 1 else 0) (fun j => szM g (j : Int)) i.toNat)), some (.inl i)] [] g := by
    refine byN _ (fun n ih i hn2 h0 h1 => ?_)
    have hu := unv_b (s := if k = 0 then 1 else 0) (fun j => szM_b hL ((j : Nat) : Int)) i.toNat
    have hz := szM_b hL i
    have hE := eP_b hL i
    refine j_iload_n C dX5_unevenOf_4 rfl ?_
    refine j_aload_n C dX5_unevenOf_5 rfl ?_
    refine j_getI C fX5_unevenOf_7 rfl rfl dX5_unevenOf_6 ?_
    refine j_icmp_ge C (tgt := 32) dX5_unevenOf_9 (by decide) (by first | omega | (refine ⟨?_, ?_⟩ <;> omega) | exact hw _ _ | exact nrm_R _) (by first | omega | (refine ⟨?_, ?_⟩ <;> omega) | exact hw _ _ | exact nrm_R _) (fun c_9 => ?_) (fun c_9 => ?_)
    · refine j_iload_n C dX5_unevenOf_32 rfl ?_
      refine j_iretI C dX5_unevenOf_33 (by intro h; cases h) (fun hw9 => ?_)
      exact ⟨rfl, by rw [show i.toNat = (g 21 0).toNat by omega]⟩
    · refine j_iload_n C dX5_unevenOf_12 rfl ?_
      refine j_iload_n C dX5_unevenOf_13 rfl ?_
      refine j_aload_n C dX5_unevenOf_14 rfl ?_
      refine j_iload_n C dX5_unevenOf_15 rfl ?_
      refine j_callVi1 C vX5_unevenOf_109 rfl rfl (Nat.le_of_ble_eq_true rfl) ⟨Nat.zero_le _, Nat.zero_le _⟩ dX5_unevenOf_16 (ct_X5_error ⟨hL, by omega, by omega⟩) (fun x_16 g_16 hk_16 => ?_)
      obtain ⟨e_16, rfl⟩ := hk_16
      have e_16 := e_16.symm
      subst e_16
      refine j_callSi1 C vX5_unevenOf_99 rfl (Nat.le_of_ble_eq_true rfl) ⟨Nat.zero_le _, Nat.zero_le _⟩ dX5_unevenOf_19 (ct_X5_size ⟨by omega, by omega⟩) (fun x_19 g_19 hk_19 => ?_)
      obtain ⟨e_19, rfl⟩ := hk_19
      have e_19 := e_19.symm
      subst e_19
      refine j_callSi3 C vX5_unevenOf_112 rfl (Nat.le_of_ble_eq_true rfl) ⟨Nat.zero_le _, Nat.zero_le _⟩ dX5_unevenOf_22 (ct_X5_with ⟨⟨by omega, by omega⟩, ⟨by omega, by omega⟩, hs⟩) (fun x_22 g_22 hk_22 => ?_)
      obtain ⟨e_22, rfl⟩ := hk_22
      have e_22 := e_22.symm
      subst e_22
      refine j_istore_n C dX5_unevenOf_25 (Nat.le_of_ble_eq_true rfl) ?_
      dsimp only [List.set]
      refine j_iinc C dX5_unevenOf_26 rfl ?_
      dsimp only [List.set]
      refine j_goto C (tgt := 4) dX5_unevenOf_29 (by decide) ?_
      refine j_cast (ih _ (by omega) (i + 1) rfl (by omega) (by omega)) ?_ rfl rfl
      rw [show (i + 1).toNat = i.toNat + 1 by omega, unv, show ((i.toNat : Nat) : Int) = i by omega]
      rfl
  refine j_iconst C dX5_unevenOf_0 ?_
  refine j_istore_n C dX5_unevenOf_1 (Nat.le_of_ble_eq_true rfl) ?_
  dsimp only [List.set]
  refine j_iconst C dX5_unevenOf_2 ?_
  refine j_istore_n C dX5_unevenOf_3 (Nat.le_of_ble_eq_true rfl) ?_
  dsimp only [List.set]
  exact lp _ 0 rfl (by omega) (by omega)
set_option maxHeartbeats 4000000 in
set_option maxRecDepth 100000 in
theorem ct_X2_isLawful {a b : Int} {g : AG} (h : LX g ∧ aR a ∧ aR b) : MetI yX2_isLawful wsX2_isLawful rmX2_isLawful ShW [.inr 8, .inl a, .inl b] g (fun x g' => g' = g ∧ (x = 0 ∨ x = 1) ∧ (x = 1 ↔ lawf (g 10) (g 8 2).toNat a b)) := by
  refine metI_of (cc := cX2_isLawful) (nL := 4) true (by decide +kernel) rfl (Nat.le_of_ble_eq_true rfl) (fun q J C => ?_)
  show J q ShW 0 0 0 [some (.inr 8), some (.inl a), some (.inl b), none] [] g
  refine j_wf C (fun hw => ?_)
  obtain ⟨hL, ha, hb⟩ := h
  have hn := hL.1
  have hS := hL.2.2.2.2.2.2
  have lp : ∀ k : Nat, ∀ (i : Int), (g 8 2 - i).toNat = k → 1 ≤ i → i ≤ g 8 2 → lawf (g 10) i.toNat a b → J q ShW 0 0 2 [some (.inr 8), some (.inl a), some (.inl b), some (.inl i)] [] g := by
    refine byN _ (fun k ih i hn2 h0 h1 hf => ?_)
    have s0 := hS i.toNat
    have s1 := hS (i - 1).toNat
    have s2 := hS (i - 2).toNat
    have e1 : i.toNat - 1 = (i - 1).toNat := by omega
    have e2 : i.toNat - 2 = (i - 2).toNat := by omega
    refine j_iload_n C dX2_isLawful_2 rfl ?_
    refine j_aload_n C dX2_isLawful_3 rfl ?_
    refine j_getI C fX2_isLawful_18 rfl rfl dX2_isLawful_4 ?_
    refine j_icmp_ge C (tgt := 80) dX2_isLawful_7 (by decide) (by first | omega | (refine ⟨?_, ?_⟩ <;> omega) | exact ha | exact hb | exact hw _ _) (by first | omega | (refine ⟨?_, ?_⟩ <;> omega) | exact ha | exact hb | exact hw _ _) (fun c_7 => ?_) (fun c_7 => ?_)
    · refine j_iconst C dX2_isLawful_80 ?_
      refine j_iretI C dX2_isLawful_81 (fun _ => by first | exact Or.inl rfl | exact Or.inr rfl | assumption | omega) (fun hw9 => ?_)
      refine ⟨rfl, Or.inr rfl, fun _ => ?_, fun _ => rfl⟩
      rw [show (g 8 2).toNat = i.toNat by omega]
      exact hf
    · refine j_aload_n C dX2_isLawful_10 rfl ?_
      refine j_getR C fX2_isLawful_15 rfl rfl dX2_isLawful_11 ?_
      refine j_iload_n C dX2_isLawful_14 rfl ?_
      refine j_iaload C rfl (by decide) dX2_isLawful_15 (by first | omega | (refine ⟨?_, ?_⟩ <;> omega) | exact ha | exact hb | exact hw _ _) (by first | omega | (refine ⟨?_, ?_⟩ <;> omega) | exact ha | exact hb | exact hw _ _) ?_
      refine j_aload_n C dX2_isLawful_16 rfl ?_
      refine j_getR C fX2_isLawful_15 rfl rfl dX2_isLawful_17 ?_
      refine j_iload_n C dX2_isLawful_20 rfl ?_
      refine j_iconst C dX2_isLawful_21 ?_
      refine j_isub C dX2_isLawful_22 ?_
      refine j_iaload C rfl (by decide) dX2_isLawful_23 (by first | omega | (refine ⟨?_, ?_⟩ <;> omega) | exact ha | exact hb | exact hw _ _) (by first | omega | (refine ⟨?_, ?_⟩ <;> omega) | exact ha | exact hb | exact hw _ _) ?_
      refine j_isub C dX2_isLawful_24 ?_
      refine j_mabs C vX2_isLawful_47 rfl (by refine ⟨?_, ?_, ?_, ?_⟩ <;> decide) dX2_isLawful_25 (by first | omega | (refine ⟨?_, ?_⟩ <;> omega) | exact ha | exact hb | exact hw _ _) (by first | omega | (refine ⟨?_, ?_⟩ <;> omega) | exact ha | exact hb | exact hw _ _) ?_
      refine j_iload_n C dX2_isLawful_28 rfl ?_
      refine j_icmp_le C (tgt := 34) dX2_isLawful_29 (by decide) (by first | omega | (refine ⟨?_, ?_⟩ <;> omega) | exact ha | exact hb | exact hw _ _) (by first | omega | (refine ⟨?_, ?_⟩ <;> omega) | exact ha | exact hb | exact hw _ _) (fun c_29 => ?_) (fun c_29 => ?_)
      · refine j_iload_n C dX2_isLawful_34 rfl ?_
        refine j_iconst C dX2_isLawful_35 ?_
        refine j_icmp_lt C (tgt := 74) dX2_isLawful_36 (by decide) (by first | omega | (refine ⟨?_, ?_⟩ <;> omega) | exact ha | exact hb | exact hw _ _) (by first | omega | (refine ⟨?_, ?_⟩ <;> omega) | exact ha | exact hb | exact hw _ _) (fun c_36 => ?_) (fun c_36 => ?_)
        · refine j_iinc C dX2_isLawful_74 rfl ?_
          dsimp only [List.set]
          refine j_goto C (tgt := 2) dX2_isLawful_77 (by decide) ?_
          refine ih _ (by omega) (i + 1) rfl (by omega) (by omega) (fun j hj => ?_)
          by_cases hji : j = i.toNat
          · subst hji
            refine ⟨fun _ => ?_, fun _ => ?_⟩
            · rw [e1]; omega
            · rw [e1, e2]; omega
          · exact hf j (by omega)
        · refine j_iconst C dX2_isLawful_39 ?_
          refine j_aload_n C dX2_isLawful_40 rfl ?_
          refine j_getR C fX2_isLawful_15 rfl rfl dX2_isLawful_41 ?_
          refine j_iload_n C dX2_isLawful_44 rfl ?_
          refine j_iconst C dX2_isLawful_45 ?_
          refine j_isub C dX2_isLawful_46 ?_
          refine j_iaload C rfl (by decide) dX2_isLawful_47 (by first | omega | (refine ⟨?_, ?_⟩ <;> omega) | exact ha | exact hb | exact hw _ _) (by first | omega | (refine ⟨?_, ?_⟩ <;> omega) | exact ha | exact hb | exact hw _ _) ?_
          refine j_imul C dX2_isLawful_48 ?_
          refine j_aload_n C dX2_isLawful_49 rfl ?_
          refine j_getR C fX2_isLawful_15 rfl rfl dX2_isLawful_50 ?_
          refine j_iload_n C dX2_isLawful_53 rfl ?_
          refine j_iconst C dX2_isLawful_54 ?_
          refine j_isub C dX2_isLawful_55 ?_
          refine j_iaload C rfl (by decide) dX2_isLawful_56 (by first | omega | (refine ⟨?_, ?_⟩ <;> omega) | exact ha | exact hb | exact hw _ _) (by first | omega | (refine ⟨?_, ?_⟩ <;> omega) | exact ha | exact hb | exact hw _ _) ?_
          refine j_isub C dX2_isLawful_57 ?_
          refine j_aload_n C dX2_isLawful_58 rfl ?_
          refine j_getR C fX2_isLawful_15 rfl rfl dX2_isLawful_59 ?_
          refine j_iload_n C dX2_isLawful_62 rfl ?_
          refine j_iaload C rfl (by decide) dX2_isLawful_63 (by first | omega | (refine ⟨?_, ?_⟩ <;> omega) | exact ha | exact hb | exact hw _ _) (by first | omega | (refine ⟨?_, ?_⟩ <;> omega) | exact ha | exact hb | exact hw _ _) ?_
          refine j_isub C dX2_isLawful_64 ?_
          refine j_mabs C vX2_isLawful_47 rfl (by refine ⟨?_, ?_, ?_, ?_⟩ <;> decide) dX2_isLawful_65 (by first | omega | (refine ⟨?_, ?_⟩ <;> omega) | exact ha | exact hb | exact hw _ _) (by first | omega | (refine ⟨?_, ?_⟩ <;> omega) | exact ha | exact hb | exact hw _ _) ?_
          refine j_iload_n C dX2_isLawful_68 rfl ?_
          refine j_icmp_le C (tgt := 74) dX2_isLawful_69 (by decide) (by first | omega | (refine ⟨?_, ?_⟩ <;> omega) | exact ha | exact hb | exact hw _ _) (by first | omega | (refine ⟨?_, ?_⟩ <;> omega) | exact ha | exact hb | exact hw _ _) (fun c_69 => ?_) (fun c_69 => ?_)
          · refine j_iinc C dX2_isLawful_74 rfl ?_
            dsimp only [List.set]
            refine j_goto C (tgt := 2) dX2_isLawful_77 (by decide) ?_
            refine ih _ (by omega) (i + 1) rfl (by omega) (by omega) (fun j hj => ?_)
            by_cases hji : j = i.toNat
            · subst hji
              refine ⟨fun _ => ?_, fun _ => ?_⟩
              · rw [e1]; omega
              · rw [e1, e2]; omega
            · exact hf j (by omega)
          · refine j_iconst C dX2_isLawful_72 ?_
            refine j_iretI C dX2_isLawful_73 (fun _ => by first | exact Or.inl rfl | exact Or.inr rfl | assumption | omega) (fun hw9 => ?_)
            refine ⟨rfl, Or.inl rfl, fun h => absurd h (by decide), fun h => ?_⟩
            have h9 := (h i.toNat (by omega)).2 (by omega)
            rw [e1, e2] at h9
            omega
      · refine j_iconst C dX2_isLawful_32 ?_
        refine j_iretI C dX2_isLawful_33 (fun _ => by first | exact Or.inl rfl | exact Or.inr rfl | assumption | omega) (fun hw9 => ?_)
        refine ⟨rfl, Or.inl rfl, fun h => absurd h (by decide), fun h => ?_⟩
        have h9 := (h i.toNat (by omega)).1 (by omega)
        rw [e1] at h9
        omega
  refine j_iconst C dX2_isLawful_0 ?_
  refine j_istore_n C dX2_isLawful_1 (Nat.le_of_ble_eq_true rfl) ?_
  dsimp only [List.set]
  exact lp _ 1 rfl (by omega) (by omega) (fun j hj => ⟨fun h => absurd hj (by simp; omega), fun h => absurd hj (by simp; omega)⟩)
set_option maxHeartbeats 4000000 in
set_option maxRecDepth 100000 in
theorem ct_X2_trySetting {p v : Int} {g : AG} (h : LX g ∧ 0 ≤ p ∧ p < g 8 2 ∧ -10 ≤ v ∧ v ≤ 10) : MetI yX2_trySetting wsX2_trySetting rmX2_trySetting ShW [.inr 8, .inl p, .inl v] g (fun x g' => (x = 0 ∨ x = 1) ∧ (x = 1 ↔ lawf (fun j => if j = p.toNat then v else g 10 j) (g 8 2).toNat (g 8 3) (g 8 4)) ∧ g' = (if x = 1 then aset g 10 p.toNat v else g)) := by
  refine metI_of (cc := cX2_trySetting) (nL := 4) true (by decide +kernel) rfl (Nat.le_of_ble_eq_true rfl) (fun q J C => ?_)
  show J q ShW 0 0 0 [some (.inr 8), some (.inl p), some (.inl v), none] [] g
  refine j_wf C (fun hw => ?_)
  obtain ⟨hL, h1, h2, h3, h4⟩ := h
  have hn := hL.1
  have hL2 := LX_set hL (j := p.toNat) h3 h4
  refine j_aload_n C dX2_trySetting_0 rfl ?_
  refine j_getR C fX2_trySetting_15 rfl rfl dX2_trySetting_1 ?_
  refine j_iload_n C dX2_trySetting_4 rfl ?_
  refine j_iaload C rfl (by decide) dX2_trySetting_5 (by first | omega | (refine ⟨?_, ?_⟩ <;> omega) | exact hw _ _ | exact nrm_R _) (by first | omega | (refine ⟨?_, ?_⟩ <;> omega) | exact hw _ _ | exact nrm_R _) ?_
  refine j_istore_n C dX2_trySetting_6 (Nat.le_of_ble_eq_true rfl) ?_
  dsimp only [List.set]
  refine j_aload_n C dX2_trySetting_7 rfl ?_
  refine j_getR C fX2_trySetting_15 rfl rfl dX2_trySetting_8 ?_
  refine j_iload_n C dX2_trySetting_11 rfl ?_
  refine j_iload_n C dX2_trySetting_12 rfl ?_
  refine j_iastore C rfl (by decide) dX2_trySetting_13 (by first | omega | (refine ⟨?_, ?_⟩ <;> omega) | exact hw _ _ | exact nrm_R _) (by first | omega | (refine ⟨?_, ?_⟩ <;> omega) | exact hw _ _ | exact nrm_R _) (by first | omega | (refine ⟨?_, ?_⟩ <;> omega) | exact hw _ _ | exact nrm_R _) ?_
  refine j_aload_n C dX2_trySetting_14 rfl ?_
  refine j_aload_n C dX2_trySetting_15 rfl ?_
  refine j_getI C fX2_trySetting_22 rfl rfl dX2_trySetting_16 ?_
  refine j_aload_n C dX2_trySetting_19 rfl ?_
  refine j_getI C fX2_trySetting_25 rfl rfl dX2_trySetting_20 ?_
  refine j_callVi2 C vX2_trySetting_43 rfl rfl (Nat.le_of_ble_eq_true rfl) ⟨Nat.zero_le _, Nat.zero_le _⟩ dX2_trySetting_23 (ct_X2_isLawful ⟨hL2, hw _ _, hw _ _⟩) (fun x_23 g_23 hk_23 => ?_)
  obtain ⟨e_23, hb_23, hi_23⟩ := hk_23
  have e_23 := e_23.symm
  subst e_23
  refine j_if_eq C (tgt := 31) dX2_trySetting_26 (by decide) (by first | omega | (refine ⟨?_, ?_⟩ <;> omega) | exact hw _ _ | exact nrm_R _) (fun c_26 => ?_) (fun c_26 => ?_)
  · refine j_aload_n C dX2_trySetting_31 rfl ?_
    refine j_getR C fX2_trySetting_15 rfl rfl dX2_trySetting_32 ?_
    refine j_iload_n C dX2_trySetting_35 rfl ?_
    refine j_iload_n C dX2_trySetting_36 rfl ?_
    refine j_iastore C rfl (by decide) dX2_trySetting_37 (by first | omega | (refine ⟨?_, ?_⟩ <;> omega) | exact hw _ _ | exact nrm_R _) (by first | omega | (refine ⟨?_, ?_⟩ <;> omega) | exact hw _ _ | exact nrm_R _) (by exact hw _ _) ?_
    refine j_iconst C dX2_trySetting_38 ?_
    refine j_iretI C dX2_trySetting_39 (fun _ => by first | exact Or.inl rfl | exact Or.inr rfl | assumption | omega) (fun hw9 => ?_)
    rw [aset_at] at hi_23
    exact ⟨Or.inl rfl, ⟨fun h => absurd h (by decide), fun h => absurd (hi_23.mpr h) (by omega)⟩, by rw [if_neg (by decide)]; exact aset_back rfl⟩
  · refine j_iconst C dX2_trySetting_29 ?_
    refine j_iretI C dX2_trySetting_30 (fun _ => by first | exact Or.inl rfl | exact Or.inr rfl | assumption | omega) (fun hw9 => ?_)
    rw [aset_at] at hi_23
    exact ⟨Or.inr rfl, ⟨fun _ => hi_23.mp (by omega), fun _ => rfl⟩, by rw [if_pos rfl]⟩
