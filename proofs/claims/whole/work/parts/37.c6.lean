set_option maxHeartbeats 4000000 in
set_option maxRecDepth 100000 in
theorem ct_X3_forget {g : AG} : MetV yX3_forget wsX3_forget rmX3_forget ShW [.inr 12] g (fun g' => g' = aset g 12 4 0) := by
  refine metV_of (cc := cX3_forget) (nL := 1) (by decide +kernel) rfl (Nat.le_of_ble_eq_true rfl) (fun q J C => ?_)
  show J q ShW 0 0 0 [some (.inr 12)] [] g
  refine j_wf C (fun hw => ?_)
  refine j_aload_n C dX3_forget_0 rfl ?_
  refine j_iconst C dX3_forget_1 ?_
  refine j_putI C pX3_forget_31 rfl rfl (by first | omega | (refine ⟨?_, ?_⟩ <;> omega) | exact hw _ _ | exact nrm_R _) (by intro h; cases h) dX3_forget_2 ?_
  refine j_vretV C dX3_forget_5 (fun hw9 => ?_)
  rfl
set_option maxHeartbeats 4000000 in
set_option maxRecDepth 100000 in
theorem ct_X3_count {g : AG} : MetI yX3_count wsX3_count rmX3_count ShW [.inr 12] g (fun x g' => g' = g ∧ x = g 12 4) := by
  refine metI_of (cc := cX3_count) (nL := 1) false (by decide +kernel) rfl (Nat.le_of_ble_eq_true rfl) (fun q J C => ?_)
  show J q ShW 0 0 0 [some (.inr 12)] [] g
  refine j_wf C (fun hw => ?_)
  refine j_aload_n C dX3_count_0 rfl ?_
  refine j_getI C fX3_count_31 rfl rfl dX3_count_1 ?_
  refine j_iretI C dX3_count_4 (by intro h; cases h) (fun hw9 => ?_)
  exact ⟨rfl, rfl⟩
def setK (g : AG) (w v b : Int) : AG := aset (aset (aset (aset g 13 (g 12 4).toNat w) 14 (g 12 4).toNat v) 15 (g 12 4).toNat b) 12 4 (g 12 4 + 1)
set_option maxHeartbeats 4000000 in
set_option maxRecDepth 100000 in
theorem ct_X3_add {w v b : Int} {g : AG} (h : aR w ∧ aR v ∧ aR b ∧ 0 ≤ g 12 4 ∧ g 12 4 < 4) : MetI yX3_add wsX3_add rmX3_add ShW [.inr 12, .inl w, .inl v, .inl b] g (fun x g' => x = g 12 4 ∧ g' = setK g w v b) := by
  refine metI_of (cc := cX3_add) (nL := 4) false (by decide +kernel) rfl (Nat.le_of_ble_eq_true rfl) (fun q J C => ?_)
  show J q ShW 0 0 0 [some (.inr 12), some (.inl w), some (.inl v), some (.inl b)] [] g
  refine j_wf C (fun hw => ?_)
  obtain ⟨h1, h2, h3, h4, h5⟩ := h
  refine j_aload_n C dX3_add_0 rfl ?_
  refine j_getR C fX3_add_9 rfl rfl dX3_add_1 ?_
  refine j_aload_n C dX3_add_4 rfl ?_
  refine j_getI C fX3_add_31 rfl rfl dX3_add_5 ?_
  refine j_iload_n C dX3_add_8 rfl ?_
  refine j_iastore C rfl (by decide) dX3_add_9 (by first | omega | (refine ⟨?_, ?_⟩ <;> omega) | exact hw _ _ | exact nrm_R _) (by first | omega | (refine ⟨?_, ?_⟩ <;> omega) | exact hw _ _ | exact nrm_R _) (by exact h1) ?_
  refine j_aload_n C dX3_add_10 rfl ?_
  refine j_getR C fX3_add_15 rfl rfl dX3_add_11 ?_
  refine j_aload_n C dX3_add_14 rfl ?_
  refine j_getI C fX3_add_31 rfl rfl dX3_add_15 ?_
  simp only [aset_kn _ _ _ (show (12 : Nat) ≠ 13 by decide), aset_kn _ _ _ (show (12 : Nat) ≠ 14 by decide), aset_kn _ _ _ (show (12 : Nat) ≠ 15 by decide)]
  refine j_iload_n C dX3_add_18 rfl ?_
  refine j_iastore C rfl (by decide) dX3_add_19 (by first | omega | (refine ⟨?_, ?_⟩ <;> omega) | exact hw _ _ | exact nrm_R _) (by first | omega | (refine ⟨?_, ?_⟩ <;> omega) | exact hw _ _ | exact nrm_R _) (by exact h2) ?_
  refine j_aload_n C dX3_add_20 rfl ?_
  refine j_getR C fX3_add_18 rfl rfl dX3_add_21 ?_
  refine j_aload_n C dX3_add_24 rfl ?_
  refine j_getI C fX3_add_31 rfl rfl dX3_add_25 ?_
  simp only [aset_kn _ _ _ (show (12 : Nat) ≠ 13 by decide), aset_kn _ _ _ (show (12 : Nat) ≠ 14 by decide), aset_kn _ _ _ (show (12 : Nat) ≠ 15 by decide)]
  refine j_iload_n C dX3_add_28 rfl ?_
  refine j_iastore C rfl (by decide) dX3_add_29 (by first | omega | (refine ⟨?_, ?_⟩ <;> omega) | exact hw _ _ | exact nrm_R _) (by first | omega | (refine ⟨?_, ?_⟩ <;> omega) | exact hw _ _ | exact nrm_R _) (by exact h3) ?_
  refine j_aload_n C dX3_add_30 rfl ?_
  refine j_dup C dX3_add_31 ?_
  refine j_getI C fX3_add_31 rfl rfl dX3_add_32 ?_
  simp only [aset_kn _ _ _ (show (12 : Nat) ≠ 13 by decide), aset_kn _ _ _ (show (12 : Nat) ≠ 14 by decide), aset_kn _ _ _ (show (12 : Nat) ≠ 15 by decide)]
  refine j_iconst C dX3_add_35 ?_
  refine j_iadd C dX3_add_36 ?_
  refine j_putI C pX3_add_31 rfl rfl (by first | omega | (refine ⟨?_, ?_⟩ <;> omega) | exact hw _ _ | exact nrm_R _) (by intro h; cases h) dX3_add_37 ?_
  refine j_aload_n C dX3_add_40 rfl ?_
  refine j_getI C fX3_add_31 rfl rfl dX3_add_41 ?_
  refine j_iconst C dX3_add_44 ?_
  refine j_isub C dX3_add_45 ?_
  refine j_iretI C dX3_add_46 (by intro h; cases h) (fun hw9 => ?_)
  rw [aset_s]
  exact ⟨by omega, rfl⟩
set_option maxHeartbeats 4000000 in
set_option maxRecDepth 100000 in
theorem ct_X3_plannedAt {p : Int} {g : AG} (h : 0 ≤ p ∧ p < 24) : MetI yX3_plannedAt wsX3_plannedAt rmX3_plannedAt ShW [.inr 12, .inl p] g (fun x g' => g' = g ∧ x = g 17 p.toNat) := by
  refine metI_of (cc := cX3_plannedAt) (nL := 2) false (by decide +kernel) rfl (Nat.le_of_ble_eq_true rfl) (fun q J C => ?_)
  show J q ShW 0 0 0 [some (.inr 12), some (.inl p)] [] g
  refine j_wf C (fun hw => ?_)
  refine j_aload_n C dX3_plannedAt_0 rfl ?_
  refine j_getR C fX3_plannedAt_24 rfl rfl dX3_plannedAt_1 ?_
  refine j_iload_n C dX3_plannedAt_4 rfl ?_
  refine j_iaload C rfl (by decide) dX3_plannedAt_5 (by first | omega | (refine ⟨?_, ?_⟩ <;> omega) | exact hw _ _ | exact nrm_R _) (by first | omega | (refine ⟨?_, ?_⟩ <;> omega) | exact hw _ _ | exact nrm_R _) ?_
  refine j_iretI C dX3_plannedAt_6 (by intro h; cases h) (fun hw9 => ?_)
  exact ⟨rfl, rfl⟩
set_option maxHeartbeats 4000000 in
set_option maxRecDepth 100000 in
theorem ct_X3_lies {k p : Int} {g : AG} (h : LX g ∧ KX g ∧ 0 ≤ k ∧ k < 4 ∧ 0 ≤ p ∧ p < 24) : MetI yX3_lies wsX3_lies rmX3_lies ShW [.inr 12, .inl k, .inl p] g (fun x g' => g' = g ∧ (x = 0 ∨ x = 1) ∧ (x = 1 ↔ lieP (g 13 k.toNat) (g 15 k.toNat) (g 8 2) (szX g) p)) := by
  refine metI_of (cc := cX3_lies) (nL := 5) true (by decide +kernel) rfl (Nat.le_of_ble_eq_true rfl) (fun q J C => ?_)
  show J q ShW 0 0 0 [some (.inr 12), some (.inl k), some (.inl p), none, none] [] g
  refine j_wf C (fun hw => ?_)
  obtain ⟨hL, hK, h1, h2, h3, h4⟩ := h
  have hn := hL.1
  have hW := hK.2.1 k.toNat
  have hB := hK.2.2.2.1 k.toNat
  have lp : p + g 13 k.toNat ≤ g 8 2 → ∀ n : Nat, ∀ (i : Int), (p + g 13 k.toNat - i).toNat = n → p ≤ i → i ≤ p + g 13 k.toNat → (∀ j, p ≤ j → j < i → szX g j ≤ g 15 k.toNat) → J q ShW 0 0 25 [some (.inr 12), some (.inl k), some (.inl p), some (.inl (p + g 13 k.toNat)), some (.inl i)] [] g := by
    intro hle
    refine byN _ (fun n ih i hn2 h0 h9 hf => ?_)
    have hz := szX_b hL i
    refine j_iload C dX3_lies_25 rfl ?_
    refine j_iload_n C dX3_lies_27 rfl ?_
    refine j_icmp_ge C (tgt := 57) dX3_lies_28 (by decide) (by first | omega | (refine ⟨?_, ?_⟩ <;> omega) | exact hw _ _ | exact nrm_R _) (by first | omega | (refine ⟨?_, ?_⟩ <;> omega) | exact hw _ _ | exact nrm_R _) (fun c_28 => ?_) (fun c_28 => ?_)
    · refine j_iconst C dX3_lies_57 ?_
      refine j_iretI C dX3_lies_58 (fun _ => by first | exact Or.inl rfl | exact Or.inr rfl | assumption | omega) (fun hw9 => ?_)
      refine ⟨rfl, Or.inr rfl, fun _ => ⟨hle, ?_⟩, fun _ => rfl⟩
      rw [show p + g 13 k.toNat = i by omega]
      exact hf
    · refine j_aload_n C dX3_lies_31 rfl ?_
      refine j_getR C fX3_lies_27 rfl rfl dX3_lies_32 ?_
      refine j_iload C dX3_lies_35 rfl ?_
      refine j_callVi1 C vX3_lies_41 rfl rfl (Nat.le_of_ble_eq_true rfl) ⟨Nat.zero_le _, Nat.zero_le _⟩ dX3_lies_37 (ct_X2_sizeOf ⟨hL, by omega, by omega⟩) (fun x_37 g_37 hk_37 => ?_)
      obtain ⟨e_37, rfl⟩ := hk_37
      have e_37 := e_37.symm
      subst e_37
      refine j_aload_n C dX3_lies_40 rfl ?_
      refine j_getR C fX3_lies_18 rfl rfl dX3_lies_41 ?_
      refine j_iload_n C dX3_lies_44 rfl ?_
      refine j_iaload C rfl (by decide) dX3_lies_45 (by first | omega | (refine ⟨?_, ?_⟩ <;> omega) | exact hw _ _ | exact nrm_R _) (by first | omega | (refine ⟨?_, ?_⟩ <;> omega) | exact hw _ _ | exact nrm_R _) ?_
      refine j_icmp_le C (tgt := 51) dX3_lies_46 (by decide) (by first | omega | (refine ⟨?_, ?_⟩ <;> omega) | exact hw _ _ | exact nrm_R _) (by first | omega | (refine ⟨?_, ?_⟩ <;> omega) | exact hw _ _ | exact nrm_R _) (fun c_46 => ?_) (fun c_46 => ?_)
      · refine j_iinc C dX3_lies_51 rfl ?_
        dsimp only [List.set]
        refine j_goto C (tgt := 25) dX3_lies_54 (by decide) ?_
        refine ih _ (by omega) (i + 1) rfl (by omega) (by omega) (fun j q1 q2 => ?_)
        by_cases e3 : j = i
        · subst e3
          omega
        · exact hf j q1 (by omega)
      · refine j_iconst C dX3_lies_49 ?_
        refine j_iretI C dX3_lies_50 (fun _ => by first | exact Or.inl rfl | exact Or.inr rfl | assumption | omega) (fun hw9 => ?_)
        refine ⟨rfl, Or.inl rfl, fun h => absurd h (by decide), fun h => ?_⟩
        have := h.2 i (by omega) (by omega)
        omega
  refine j_iload_n C dX3_lies_0 rfl ?_
  refine j_aload_n C dX3_lies_1 rfl ?_
  refine j_getR C fX3_lies_9 rfl rfl dX3_lies_2 ?_
  refine j_iload_n C dX3_lies_5 rfl ?_
  refine j_iaload C rfl (by decide) dX3_lies_6 (by first | omega | (refine ⟨?_, ?_⟩ <;> omega) | exact hw _ _ | exact nrm_R _) (by first | omega | (refine ⟨?_, ?_⟩ <;> omega) | exact hw _ _ | exact nrm_R _) ?_
  refine j_iadd C dX3_lies_7 ?_
  refine j_istore_n C dX3_lies_8 (Nat.le_of_ble_eq_true rfl) ?_
  dsimp only [List.set]
  refine j_iload_n C dX3_lies_9 rfl ?_
  refine j_aload_n C dX3_lies_10 rfl ?_
  refine j_getR C fX3_lies_27 rfl rfl dX3_lies_11 ?_
  refine j_callVi0 C vX3_lies_35 rfl rfl (Nat.le_of_ble_eq_true rfl) ⟨Nat.zero_le _, Nat.zero_le _⟩ dX3_lies_14 (ct_X2_places ) (fun x_14 g_14 hk_14 => ?_)
  obtain ⟨e_14, rfl⟩ := hk_14
  have e_14 := e_14.symm
  subst e_14
  refine j_icmp_le C (tgt := 22) dX3_lies_17 (by decide) (by first | omega | (refine ⟨?_, ?_⟩ <;> omega) | exact hw _ _ | exact nrm_R _) (by first | omega | (refine ⟨?_, ?_⟩ <;> omega) | exact hw _ _ | exact nrm_R _) (fun c_17 => ?_) (fun c_17 => ?_)
  · refine j_iload_n C dX3_lies_22 rfl ?_
    refine j_istore C dX3_lies_23 (Nat.le_of_ble_eq_true rfl) ?_
    dsimp only [List.set]
    exact lp (by omega) _ p rfl (by omega) (by omega) (fun j q1 q2 => by omega)
  · refine j_iconst C dX3_lies_20 ?_
    refine j_iretI C dX3_lies_21 (fun _ => by first | exact Or.inl rfl | exact Or.inr rfl | assumption | omega) (fun hw9 => ?_)
    exact ⟨rfl, Or.inl rfl, fun h => absurd h (by decide), fun h => by have := h.1; omega⟩
set_option maxHeartbeats 4000000 in
set_option maxRecDepth 100000 in
theorem ct_X1_count {g : AG} : MetI yX1_count wsX1_count rmX1_count ShW [.inr 18] g (fun x g' => g' = g ∧ x = g 18 0) := by
  refine metI_of (cc := cX1_count) (nL := 1) false (by decide +kernel) rfl (Nat.le_of_ble_eq_true rfl) (fun q J C => ?_)
  show J q ShW 0 0 0 [some (.inr 18)] [] g
  refine j_wf C (fun hw => ?_)
  refine j_aload_n C dX1_count_0 rfl ?_
  refine j_getI C fX1_count_24 rfl rfl dX1_count_1 ?_
  refine j_iretI C dX1_count_4 (by intro h; cases h) (fun hw9 => ?_)
  exact ⟨rfl, rfl⟩
set_option maxHeartbeats 4000000 in
set_option maxRecDepth 100000 in
theorem ct_X1_add {g : AG} (h : 0 ≤ g 18 0 ∧ g 18 0 < 9) : MetI yX1_add wsX1_add rmX1_add ShW [.inr 18] g (fun x g' => x = g 18 0 ∧ g' = aset (aset g 18 3 0) 18 0 (g 18 0 + 1)) := by
  refine metI_of (cc := cX1_add) (nL := 1) false (by decide +kernel) rfl (Nat.le_of_ble_eq_true rfl) (fun q J C => ?_)
  show J q ShW 0 0 0 [some (.inr 18)] [] g
  refine j_wf C (fun hw => ?_)
  refine j_aload_n C dX1_add_0 rfl ?_
  refine j_iconst C dX1_add_1 ?_
  refine j_putI C pX1_add_28 rfl rfl (by first | omega | (refine ⟨?_, ?_⟩ <;> omega) | exact hw _ _ | exact nrm_R _) (fun _ => by first | exact Or.inl rfl | exact Or.inr rfl | omega) dX1_add_2 ?_
  refine j_aload_n C dX1_add_5 rfl ?_
  refine j_dup C dX1_add_6 ?_
  refine j_getI C fX1_add_24 rfl rfl dX1_add_7 ?_
  refine j_iconst C dX1_add_10 ?_
  refine j_iadd C dX1_add_11 ?_
  refine j_putI C pX1_add_24 rfl rfl (by rw [aset_n _ _ (Or.inr (by decide))]; refine ⟨?_, ?_⟩ <;> omega) (by intro h; cases h) dX1_add_12 ?_
  refine j_aload_n C dX1_add_15 rfl ?_
  refine j_getI C fX1_add_24 rfl rfl dX1_add_16 ?_
  refine j_iconst C dX1_add_19 ?_
  refine j_isub C dX1_add_20 ?_
  refine j_iretI C dX1_add_21 (by intro h; cases h) (fun hw9 => ?_)
  rw [aset_s, aset_n _ _ (Or.inr (by decide))]
  exact ⟨by omega, rfl⟩
set_option maxHeartbeats 4000000 in
set_option maxRecDepth 100000 in
theorem ct_X1_costOf {a b : Int} {g : AG} (h : 0 ≤ a ∧ a < 9 ∧ 0 ≤ b ∧ b < 9) : MetI yX1_costOf wsX1_costOf rmX1_costOf ShW [.inr 18, .inl a, .inl b] g (fun x g' => g' = g ∧ x = g 19 (a * 9 + b).toNat) := by
  refine metI_of (cc := cX1_costOf) (nL := 3) false (by decide +kernel) rfl (Nat.le_of_ble_eq_true rfl) (fun q J C => ?_)
  show J q ShW 0 0 0 [some (.inr 18), some (.inl a), some (.inl b)] [] g
  refine j_wf C (fun hw => ?_)
  refine j_aload_n C dX1_costOf_0 rfl ?_
  refine j_getR C fX1_costOf_9 rfl rfl dX1_costOf_1 ?_
  refine j_iload_n C dX1_costOf_4 rfl ?_
  refine j_bipush C dX1_costOf_5 (by decide +kernel) ?_
  refine j_imul C dX1_costOf_7 ?_
  refine j_iload_n C dX1_costOf_8 rfl ?_
  refine j_iadd C dX1_costOf_9 ?_
  refine j_iaload C rfl (by decide) dX1_costOf_10 (by first | omega | (refine ⟨?_, ?_⟩ <;> omega) | exact hw _ _ | exact nrm_R _) (by first | omega | (refine ⟨?_, ?_⟩ <;> omega) | exact hw _ _ | exact nrm_R _) ?_
  refine j_iretI C dX1_costOf_11 (by intro h; cases h) (fun hw9 => ?_)
  exact ⟨rfl, rfl⟩
set_option maxHeartbeats 4000000 in
set_option maxRecDepth 100000 in
theorem ct_X1_putCost {a b v : Int} {g : AG} (h : 0 ≤ a ∧ a < 9 ∧ 0 ≤ b ∧ b < 9 ∧ aR v) : MetI yX1_putCost wsX1_putCost rmX1_putCost ShW [.inr 18, .inl a, .inl b, .inl v] g (fun x g' => x = g 19 (a * 9 + b).toNat ∧ g' = aset (aset g 19 (a * 9 + b).toNat v) 18 3 0) := by
  refine metI_of (cc := cX1_putCost) (nL := 5) false (by decide +kernel) rfl (Nat.le_of_ble_eq_true rfl) (fun q J C => ?_)
  show J q ShW 0 0 0 [some (.inr 18), some (.inl a), some (.inl b), some (.inl v), none] [] g
  refine j_wf C (fun hw => ?_)
  obtain ⟨h1, h2, h3, h4, h5⟩ := h
  refine j_aload_n C dX1_putCost_0 rfl ?_
  refine j_iload_n C dX1_putCost_1 rfl ?_
  refine j_iload_n C dX1_putCost_2 rfl ?_
  refine j_callVi2 C vX1_putCost_32 rfl rfl (Nat.le_of_ble_eq_true rfl) ⟨Nat.zero_le _, Nat.zero_le _⟩ dX1_putCost_3 (ct_X1_costOf ⟨h1, h2, h3, h4⟩) (fun x_3 g_3 hk_3 => ?_)
  obtain ⟨e_3, rfl⟩ := hk_3
  have e_3 := e_3.symm
  subst e_3
  refine j_istore C dX1_putCost_6 (Nat.le_of_ble_eq_true rfl) ?_
  dsimp only [List.set]
  refine j_aload_n C dX1_putCost_8 rfl ?_
  refine j_getR C fX1_putCost_9 rfl rfl dX1_putCost_9 ?_
  refine j_iload_n C dX1_putCost_12 rfl ?_
  refine j_bipush C dX1_putCost_13 (by decide +kernel) ?_
  refine j_imul C dX1_putCost_15 ?_
  refine j_iload_n C dX1_putCost_16 rfl ?_
  refine j_iadd C dX1_putCost_17 ?_
  refine j_iload_n C dX1_putCost_18 rfl ?_
  refine j_iastore C rfl (by decide) dX1_putCost_19 (by first | omega | (refine ⟨?_, ?_⟩ <;> omega) | exact hw _ _ | exact nrm_R _) (by first | omega | (refine ⟨?_, ?_⟩ <;> omega) | exact hw _ _ | exact nrm_R _) (by exact h5) ?_
  refine j_aload_n C dX1_putCost_20 rfl ?_
  refine j_iconst C dX1_putCost_21 ?_
  refine j_putI C pX1_putCost_28 rfl rfl (by first | omega | (refine ⟨?_, ?_⟩ <;> omega) | exact hw _ _ | exact nrm_R _) (fun _ => by first | exact Or.inl rfl | exact Or.inr rfl | omega) dX1_putCost_22 ?_
  refine j_iload C dX1_putCost_25 rfl ?_
  refine j_iretI C dX1_putCost_27 (by intro h; cases h) (fun hw9 => ?_)
  exact ⟨rfl, rfl⟩
set_option maxHeartbeats 4000000 in
set_option maxRecDepth 100000 in
theorem ct_X4_isTime {t : Int} {g : AG} (h : aR t) : MetI yX4_isTime wsX4_isTime rmX4_isTime ShW [.inl t] g (fun x g' => g' = g ∧ (x = 0 ∨ x = 1) ∧ (x = 1 ↔ 0 ≤ t ∧ t ≤ 39)) := by
  refine metI_of (cc := cX4_isTime) (nL := 1) true (by decide +kernel) rfl (Nat.le_of_ble_eq_true rfl) (fun q J C => ?_)
  show J q ShW 0 0 0 [some (.inl t)] [] g
  refine j_wf C (fun hw => ?_)
  refine j_iload_n C dX4_isTime_0 rfl ?_
  refine j_iconst C dX4_isTime_1 ?_
  refine j_bipush C dX4_isTime_2 (by decide +kernel) ?_
  refine j_callSi3 C vX4_isTime_39 rfl (Nat.le_of_ble_eq_true rfl) ⟨Nat.zero_le _, Nat.zero_le _⟩ dX4_isTime_4 (ct_X4_within ⟨h, ⟨by omega, by omega⟩, ⟨by omega, by omega⟩⟩) (fun x_4 g_4 hk_4 => ?_)
  obtain ⟨e_4, hb_4, hi_4⟩ := hk_4
  have e_4 := e_4.symm
  subst e_4
  refine j_iretI C dX4_isTime_7 (fun _ => by first | exact Or.inl rfl | exact Or.inr rfl | assumption | omega) (fun hw9 => ?_)
  exact ⟨rfl, hb_4, hi_4⟩
set_option maxHeartbeats 4000000 in
set_option maxRecDepth 100000 in
theorem ct_X4_isPlace {p : Int} {g : AG} (h : aR p ∧ 2 ≤ g 8 2 ∧ g 8 2 ≤ 24) : MetI yX4_isPlace wsX4_isPlace rmX4_isPlace ShW [.inr 0, .inl p] g (fun x g' => g' = g ∧ (x = 0 ∨ x = 1) ∧ (x = 1 ↔ 0 ≤ p ∧ p ≤ g 8 2 - 1)) := by
  refine metI_of (cc := cX4_isPlace) (nL := 2) true (by decide +kernel) rfl (Nat.le_of_ble_eq_true rfl) (fun q J C => ?_)
  show J q ShW 0 0 0 [some (.inr 0), some (.inl p)] [] g
  refine j_wf C (fun hw => ?_)
  obtain ⟨h1, h2, h3⟩ := h
  refine j_iload_n C dX4_isPlace_0 rfl ?_
  refine j_iconst C dX4_isPlace_1 ?_
  refine j_aload_n C dX4_isPlace_2 rfl ?_
  refine j_getR C fX4_isPlace_19 rfl rfl dX4_isPlace_3 ?_
  refine j_callVi0 C vX4_isPlace_43 rfl rfl (Nat.le_of_ble_eq_true rfl) ⟨Nat.zero_le _, Nat.zero_le _⟩ dX4_isPlace_6 (ct_X2_places ) (fun x_6 g_6 hk_6 => ?_)
  obtain ⟨e_6, rfl⟩ := hk_6
  have e_6 := e_6.symm
  subst e_6
  refine j_iconst C dX4_isPlace_9 ?_
  refine j_isub C dX4_isPlace_10 ?_
  refine j_callSi3 C vX4_isPlace_39 rfl (Nat.le_of_ble_eq_true rfl) ⟨Nat.zero_le _, Nat.zero_le _⟩ dX4_isPlace_11 (ct_X4_within ⟨h1, ⟨by omega, by omega⟩, ⟨by omega, by omega⟩⟩) (fun x_11 g_11 hk_11 => ?_)
  obtain ⟨e_11, hb_11, hi_11⟩ := hk_11
  have e_11 := e_11.symm
  subst e_11
  refine j_iretI C dX4_isPlace_14 (fun _ => by first | exact Or.inl rfl | exact Or.inr rfl | assumption | omega) (fun hw9 => ?_)
  exact ⟨rfl, hb_11, hi_11⟩
set_option maxHeartbeats 4000000 in
set_option maxRecDepth 100000 in
theorem ct_X4_isGrade {p : Int} {g : AG} (h : aR p ∧ 0 ≤ g 18 0 ∧ g 18 0 ≤ 9) : MetI yX4_isGrade wsX4_isGrade rmX4_isGrade ShW [.inr 0, .inl p] g (fun x g' => g' = g ∧ (x = 0 ∨ x = 1) ∧ (x = 1 ↔ 0 ≤ p ∧ p ≤ g 18 0 - 1)) := by
  refine metI_of (cc := cX4_isGrade) (nL := 2) true (by decide +kernel) rfl (Nat.le_of_ble_eq_true rfl) (fun q J C => ?_)
  show J q ShW 0 0 0 [some (.inr 0), some (.inl p)] [] g
  refine j_wf C (fun hw => ?_)
  obtain ⟨h1, h2, h3⟩ := h
  refine j_iload_n C dX4_isGrade_0 rfl ?_
  refine j_iconst C dX4_isGrade_1 ?_
  refine j_aload_n C dX4_isGrade_2 rfl ?_
  refine j_getR C fX4_isGrade_35 rfl rfl dX4_isGrade_3 ?_
  refine j_callVi0 C vX4_isGrade_146 rfl rfl (Nat.le_of_ble_eq_true rfl) ⟨Nat.zero_le _, Nat.zero_le _⟩ dX4_isGrade_6 (ct_X1_count ) (fun x_6 g_6 hk_6 => ?_)
  obtain ⟨e_6, rfl⟩ := hk_6
  have e_6 := e_6.symm
  subst e_6
  refine j_iconst C dX4_isGrade_9 ?_
  refine j_isub C dX4_isGrade_10 ?_
  refine j_callSi3 C vX4_isGrade_39 rfl (Nat.le_of_ble_eq_true rfl) ⟨Nat.zero_le _, Nat.zero_le _⟩ dX4_isGrade_11 (ct_X4_within ⟨h1, ⟨by omega, by omega⟩, ⟨by omega, by omega⟩⟩) (fun x_11 g_11 hk_11 => ?_)
  obtain ⟨e_11, hb_11, hi_11⟩ := hk_11
  have e_11 := e_11.symm
  subst e_11
  refine j_iretI C dX4_isGrade_14 (fun _ => by first | exact Or.inl rfl | exact Or.inr rfl | assumption | omega) (fun hw9 => ?_)
  exact ⟨rfl, hb_11, hi_11⟩
/-- the class's sheet anew -/
def shtS (g : AG) (n : Int) : AG := lipF (aset (eyeF g) 12 4 0) n
set_option maxHeartbeats 4000000 in
set_option maxRecDepth 100000 in
theorem ct_X4_sheet {a : Int} {g : AG} (h : aR a) : MetI yX4_sheet wsX4_sheet rmX4_sheet ShW [.inr 0, .inl a] g (fun x g' => x = rSheet (g 8 2) a ∧ g' = (if 2 ≤ a ∧ a ≤ 24 then shtS g a else g)) := by
  refine metI_of (cc := cX4_sheet) (nL := 3) false (by decide +kernel) rfl (Nat.le_of_ble_eq_true rfl) (fun q J C => ?_)
  show J q ShW 0 0 0 [some (.inr 0), some (.inl a), none] [] g
  refine j_wf C (fun hw => ?_)
  refine j_iload_n C dX4_sheet_0 rfl ?_
  refine j_iconst C dX4_sheet_1 ?_
  refine j_bipush C dX4_sheet_2 (by decide +kernel) ?_
  refine j_callSi3 C vX4_sheet_39 rfl (Nat.le_of_ble_eq_true rfl) ⟨Nat.zero_le _, Nat.zero_le _⟩ dX4_sheet_4 (ct_X4_within ⟨h, ⟨by omega, by omega⟩, ⟨by omega, by omega⟩⟩) (fun x_4 g_4 hk_4 => ?_)
  obtain ⟨e_4, hb_4, hi_4⟩ := hk_4
  have e_4 := e_4.symm
  subst e_4
  refine j_if_ne C (tgt := 13) dX4_sheet_7 (by decide) (by first | omega | (refine ⟨?_, ?_⟩ <;> omega) | exact hw _ _ | exact nrm_R _) (fun c_7 => ?_) (fun c_7 => ?_)
  · refine j_aload_n C dX4_sheet_13 rfl ?_
    refine j_getR C fX4_sheet_19 rfl rfl dX4_sheet_14 ?_
    refine j_callVi0 C vX4_sheet_43 rfl rfl (Nat.le_of_ble_eq_true rfl) ⟨Nat.zero_le _, Nat.zero_le _⟩ dX4_sheet_17 (ct_X2_places ) (fun x_17 g_17 hk_17 => ?_)
    obtain ⟨e_17, rfl⟩ := hk_17
    have e_17 := e_17.symm
    subst e_17
    refine j_istore_n C dX4_sheet_20 (Nat.le_of_ble_eq_true rfl) ?_
    dsimp only [List.set]
    refine j_aload_n C dX4_sheet_21 rfl ?_
    refine j_getR C fX4_sheet_10 rfl rfl dX4_sheet_22 ?_
    refine j_callVv0 C vX4_sheet_47 rfl rfl (Nat.le_of_ble_eq_true rfl) ⟨Nat.zero_le _, Nat.zero_le _⟩ dX4_sheet_25 (ct_X0_forget ) (fun g_25 hk_25 => ?_)
    subst hk_25
    refine j_aload_n C dX4_sheet_28 rfl ?_
    refine j_getR C fX4_sheet_28 rfl rfl dX4_sheet_29 ?_
    refine j_callVv0 C vX4_sheet_50 rfl rfl (Nat.le_of_ble_eq_true rfl) ⟨Nat.zero_le _, Nat.zero_le _⟩ dX4_sheet_32 (ct_X3_forget ) (fun g_32 hk_32 => ?_)
    subst hk_32
    refine j_aload_n C dX4_sheet_35 rfl ?_
    refine j_getR C fX4_sheet_19 rfl rfl dX4_sheet_36 ?_
    refine j_iload_n C dX4_sheet_39 rfl ?_
    refine j_callVv1 C vX4_sheet_51 rfl rfl (Nat.le_of_ble_eq_true rfl) ⟨Nat.zero_le _, Nat.zero_le _⟩ dX4_sheet_40 (ct_X2_renew h) (fun g_40 hk_40 => ?_)
    subst hk_40
    refine j_iload_n C dX4_sheet_43 rfl ?_
    refine j_iretI C dX4_sheet_44 (by intro h; cases h) (fun hw9 => ?_)
    unfold rSheet
    rw [if_pos (by omega)]
    exact ⟨rfl, by rw [if_pos (by omega)]; rfl⟩
  · refine j_bipush C dX4_sheet_10 (by decide +kernel) ?_
    refine j_iretI C dX4_sheet_12 (by intro h; cases h) (fun hw9 => ?_)
    unfold rSheet
    rw [if_neg (by omega)]
    exact ⟨rfl, by rw [if_neg (by omega)]⟩
set_option maxHeartbeats 4000000 in
set_option maxRecDepth 100000 in
theorem ct_X4_read {t p v : Int} {g : AG} (h : aR t ∧ aR p ∧ aR v ∧ 2 ≤ g 8 2 ∧ g 8 2 ≤ 24 ∧ 0 ≤ g 1 4 ∧ g 1 4 ≤ 100 ∧ 0 ≤ g 1 5 ∧ g 1 5 ≤ 100) : MetI yX4_read wsX4_read rmX4_read ShW [.inr 0, .inl t, .inl p, .inl v] g (fun x g' => x = rRead (g 8 2) (g 1 4) t p v (fitP (g 6) (g 7) (24 + t).toNat p.toNat v) ∧ g' = (if x = 0 ∨ x = 1 then addG g t p v x else g)) := by
  refine metI_of (cc := cX4_read) (nL := 4) false (by decide +kernel) rfl (Nat.le_of_ble_eq_true rfl) (fun q J C => ?_)
  show J q ShW 0 0 0 [some (.inr 0), some (.inl t), some (.inl p), some (.inl v)] [] g
  refine j_wf C (fun hw => ?_)
  obtain ⟨ht, hp, hv, h2, h3, h4, h5, h6, h7⟩ := h
  refine j_aload_n C dX4_read_0 rfl ?_
  refine j_iload_n C dX4_read_1 rfl ?_
  refine j_callVi1 C vX4_read_55 rfl rfl (Nat.le_of_ble_eq_true rfl) ⟨Nat.zero_le _, Nat.zero_le _⟩ dX4_read_2 (ct_X4_isPlace ⟨hp, h2, h3⟩) (fun x_2 g_2 hk_2 => ?_)
  obtain ⟨e_2, hb_2, hi_2⟩ := hk_2
  have e_2 := e_2.symm
  subst e_2
  refine j_if_ne C (tgt := 10) dX4_read_5 (by decide) (by first | omega | (refine ⟨?_, ?_⟩ <;> omega) | exact hw _ _ | exact nrm_R _) (fun c_5 => ?_) (fun c_5 => ?_)
  · refine j_iload_n C dX4_read_10 rfl ?_
    refine j_callSi1 C vX4_read_59 rfl (Nat.le_of_ble_eq_true rfl) ⟨Nat.zero_le _, Nat.zero_le _⟩ dX4_read_11 (ct_X4_isTime ht) (fun x_11 g_11 hk_11 => ?_)
    obtain ⟨e_11, hb_11, hi_11⟩ := hk_11
    have e_11 := e_11.symm
    subst e_11
    refine j_if_eq C (tgt := 30) dX4_read_14 (by decide) (by first | omega | (refine ⟨?_, ?_⟩ <;> omega) | exact hw _ _ | exact nrm_R _) (fun c_14 => ?_) (fun c_14 => ?_)
    · refine j_bipush C dX4_read_30 (by decide +kernel) ?_
      refine j_iretI C dX4_read_32 (by intro h; cases h) (fun hw9 => ?_)
      unfold rRead
      rw [if_neg (by omega), if_pos (by omega)]
      exact ⟨rfl, by rw [if_neg (by omega)]⟩
    · refine j_iload_n C dX4_read_17 rfl ?_
      refine j_sipush C dX4_read_18 (by decide +kernel) ?_
      refine j_sipush C dX4_read_21 (by decide +kernel) ?_
      refine j_callSi3 C vX4_read_39 rfl (Nat.le_of_ble_eq_true rfl) ⟨Nat.zero_le _, Nat.zero_le _⟩ dX4_read_24 (ct_X4_within ⟨hv, ⟨by omega, by omega⟩, ⟨by omega, by omega⟩⟩) (fun x_24 g_24 hk_24 => ?_)
      obtain ⟨e_24, hb_24, hi_24⟩ := hk_24
      have e_24 := e_24.symm
      subst e_24
      refine j_if_ne C (tgt := 33) dX4_read_27 (by decide) (by first | omega | (refine ⟨?_, ?_⟩ <;> omega) | exact hw _ _ | exact nrm_R _) (fun c_27 => ?_) (fun c_27 => ?_)
      · refine j_aload_n C dX4_read_33 rfl ?_
        refine j_getR C fX4_read_10 rfl rfl dX4_read_34 ?_
        refine j_callVi0 C vX4_read_62 rfl rfl (Nat.le_of_ble_eq_true rfl) ⟨Nat.zero_le _, Nat.zero_le _⟩ dX4_read_37 (ct_X0_count ) (fun x_37 g_37 hk_37 => ?_)
        obtain ⟨e_37, rfl⟩ := hk_37
        have e_37 := e_37.symm
        subst e_37
        refine j_bipush C dX4_read_40 (by decide +kernel) ?_
        refine j_icmp_lt C (tgt := 48) dX4_read_42 (by decide) (by first | omega | (refine ⟨?_, ?_⟩ <;> omega) | exact hw _ _ | exact nrm_R _) (by first | omega | (refine ⟨?_, ?_⟩ <;> omega) | exact hw _ _ | exact nrm_R _) (fun c_42 => ?_) (fun c_42 => ?_)
        · refine j_aload_n C dX4_read_48 rfl ?_
          refine j_getR C fX4_read_10 rfl rfl dX4_read_49 ?_
          refine j_iload_n C dX4_read_52 rfl ?_
          refine j_iload_n C dX4_read_53 rfl ?_
          refine j_iload_n C dX4_read_54 rfl ?_
          refine j_callVi3 C vX4_read_65 rfl rfl (Nat.le_of_ble_eq_true rfl) ⟨Nat.zero_le _, Nat.zero_le _⟩ dX4_read_55 (ct_X0_add ⟨by omega, by omega, by omega, by omega, hv, by omega, by omega, by omega, by omega⟩) (fun x_55 g_55 hk_55 => ?_)
          obtain ⟨hb_55, hi_55, rfl⟩ := hk_55
          refine j_if_eq C (tgt := 65) dX4_read_58 (by decide) (by first | omega | (refine ⟨?_, ?_⟩ <;> omega) | exact hw _ _ | exact nrm_R _) (fun c_58 => ?_) (fun c_58 => ?_)
          · refine j_iconst C dX4_read_65 ?_
            refine j_iretI C dX4_read_66 (by intro h; cases h) (fun hw9 => ?_)
            unfold rRead
            rw [if_neg (by omega), if_neg (by omega), if_neg (by omega)]
            first
            | (have e1 : x_55 = 0 := by omega
               subst e1
               rw [cif_f (fun h => by have := hi_55.mpr h; omega)]
               exact ⟨rfl, by rw [if_pos (by decide)]⟩)
            | (have e1 : x_55 = 1 := by omega
               subst e1
               rw [cif_t (hi_55.mp rfl)]
               exact ⟨rfl, by rw [if_pos (by decide)]⟩)
          · refine j_iconst C dX4_read_61 ?_
            refine j_goto C (tgt := 66) dX4_read_62 (by decide) ?_
            refine j_iretI C dX4_read_66 (by intro h; cases h) (fun hw9 => ?_)
            unfold rRead
            rw [if_neg (by omega), if_neg (by omega), if_neg (by omega)]
            first
            | (have e1 : x_55 = 0 := by omega
               subst e1
               rw [cif_f (fun h => by have := hi_55.mpr h; omega)]
               exact ⟨rfl, by rw [if_pos (by decide)]⟩)
            | (have e1 : x_55 = 1 := by omega
               subst e1
               rw [cif_t (hi_55.mp rfl)]
               exact ⟨rfl, by rw [if_pos (by decide)]⟩)
        · refine j_bipush C dX4_read_45 (by decide +kernel) ?_
          refine j_iretI C dX4_read_47 (by intro h; cases h) (fun hw9 => ?_)
          unfold rRead
          rw [if_neg (by omega), if_neg (by omega), if_pos (by omega)]
          exact ⟨rfl, by rw [if_neg (by omega)]⟩
      · refine j_bipush C dX4_read_30 (by decide +kernel) ?_
        refine j_iretI C dX4_read_32 (by intro h; cases h) (fun hw9 => ?_)
        unfold rRead
        rw [if_neg (by omega), if_pos (by omega)]
        exact ⟨rfl, by rw [if_neg (by omega)]⟩
  · refine j_iconst C dX4_read_8 ?_
    refine j_iretI C dX4_read_9 (by intro h; cases h) (fun hw9 => ?_)
    unfold rRead
    rw [if_pos (by omega)]
    exact ⟨rfl, by rw [if_neg (by omega)]⟩
set_option maxHeartbeats 4000000 in
set_option maxRecDepth 100000 in
theorem ct_X4_reading {i w : Int} {g : AG} (h : aR i ∧ aR w ∧ 0 ≤ g 1 4 ∧ g 1 4 ≤ 100 ∧ ∀ j, g 5 j = 0 ∨ g 5 j = 1) : MetI yX4_reading wsX4_reading rmX4_reading ShW [.inr 0, .inl i, .inl w] g (fun x g' => g' = g ∧ x = rReading (g 1 4) i w (g 2) (g 3) (g 4) (g 5)) := by
  refine metI_of (cc := cX4_reading) (nL := 3) false (by decide +kernel) rfl (Nat.le_of_ble_eq_true rfl) (fun q J C => ?_)
  show J q ShW 0 0 0 [some (.inr 0), some (.inl i), some (.inl w)] [] g
  refine j_wf C (fun hw => ?_)
  obtain ⟨hi, hx, h2, h3, h4⟩ := h
  have h5 := h4 i.toNat
  refine j_iload_n C dX4_reading_0 rfl ?_
  refine j_iconst C dX4_reading_1 ?_
  refine j_aload_n C dX4_reading_2 rfl ?_
  refine j_getR C fX4_reading_10 rfl rfl dX4_reading_3 ?_
  refine j_callVi0 C vX4_reading_62 rfl rfl (Nat.le_of_ble_eq_true rfl) ⟨Nat.zero_le _, Nat.zero_le _⟩ dX4_reading_6 (ct_X0_count ) (fun x_6 g_6 hk_6 => ?_)
  obtain ⟨e_6, rfl⟩ := hk_6
  have e_6 := e_6.symm
  subst e_6
  refine j_iconst C dX4_reading_9 ?_
  refine j_isub C dX4_reading_10 ?_
  refine j_callSi3 C vX4_reading_39 rfl (Nat.le_of_ble_eq_true rfl) ⟨Nat.zero_le _, Nat.zero_le _⟩ dX4_reading_11 (ct_X4_within ⟨hi, ⟨by omega, by omega⟩, ⟨by omega, by omega⟩⟩) (fun x_11 g_11 hk_11 => ?_)
  obtain ⟨e_11, hb_11, hi_11⟩ := hk_11
  have e_11 := e_11.symm
  subst e_11
  refine j_if_ne C (tgt := 20) dX4_reading_14 (by decide) (by first | omega | (refine ⟨?_, ?_⟩ <;> omega) | exact hw _ _ | exact nrm_R _) (fun c_14 => ?_) (fun c_14 => ?_)
  · refine j_iload_n C dX4_reading_20 rfl ?_
    refine j_tsw4 C (td := 96) (t0 := 52) (t1 := 61) (t2 := 70) (t3 := 79) dX4_reading_21 (by decide) ⟨by decide, by decide, by decide, by decide⟩ (by exact hx) (fun c_21 => ?_) (fun c_21 => ?_) (fun c_21 => ?_) (fun c_21 => ?_) (fun c_21 => ?_)
    · refine j_aload_n C dX4_reading_52 rfl ?_
      refine j_getR C fX4_reading_10 rfl rfl dX4_reading_53 ?_
      refine j_iload_n C dX4_reading_56 rfl ?_
      refine j_callVi1 C vX4_reading_69 rfl rfl (Nat.le_of_ble_eq_true rfl) ⟨Nat.zero_le _, Nat.zero_le _⟩ dX4_reading_57 (ct_X0_timeOf (by omega)) (fun x_57 g_57 hk_57 => ?_)
      obtain ⟨e_57, rfl⟩ := hk_57
      have e_57 := e_57.symm
      subst e_57
      refine j_iretI C dX4_reading_60 (by intro h; cases h) (fun hw9 => ?_)
      refine ⟨rfl, ?_⟩
      unfold rReading
      rw [if_neg (by omega)]
      simp only [c_21]
      all_goals first | rfl | omega | (simp; omega)
    · refine j_aload_n C dX4_reading_61 rfl ?_
      refine j_getR C fX4_reading_10 rfl rfl dX4_reading_62 ?_
      refine j_iload_n C dX4_reading_65 rfl ?_
      refine j_callVi1 C vX4_reading_73 rfl rfl (Nat.le_of_ble_eq_true rfl) ⟨Nat.zero_le _, Nat.zero_le _⟩ dX4_reading_66 (ct_X0_placeOf (by omega)) (fun x_66 g_66 hk_66 => ?_)
      obtain ⟨e_66, rfl⟩ := hk_66
      have e_66 := e_66.symm
      subst e_66
      refine j_iretI C dX4_reading_69 (by intro h; cases h) (fun hw9 => ?_)
      refine ⟨rfl, ?_⟩
      unfold rReading
      rw [if_neg (by omega)]
      simp only [c_21]
      all_goals first | rfl | omega | (simp; omega)
    · refine j_aload_n C dX4_reading_70 rfl ?_
      refine j_getR C fX4_reading_10 rfl rfl dX4_reading_71 ?_
      refine j_iload_n C dX4_reading_74 rfl ?_
      refine j_callVi1 C vX4_reading_76 rfl rfl (Nat.le_of_ble_eq_true rfl) ⟨Nat.zero_le _, Nat.zero_le _⟩ dX4_reading_75 (ct_X0_valueOf (by omega)) (fun x_75 g_75 hk_75 => ?_)
      obtain ⟨e_75, rfl⟩ := hk_75
      have e_75 := e_75.symm
      subst e_75
      refine j_iretI C dX4_reading_78 (by intro h; cases h) (fun hw9 => ?_)
      refine ⟨rfl, ?_⟩
      unfold rReading
      rw [if_neg (by omega)]
      simp only [c_21]
      all_goals first | rfl | omega | (simp; omega)
    · refine j_aload_n C dX4_reading_79 rfl ?_
      refine j_getR C fX4_reading_10 rfl rfl dX4_reading_80 ?_
      refine j_iload_n C dX4_reading_83 rfl ?_
      refine j_callVi1 C vX4_reading_79 rfl rfl (Nat.le_of_ble_eq_true rfl) ⟨Nat.zero_le _, Nat.zero_le _⟩ dX4_reading_84 (ct_X0_isFitting ⟨by omega, by omega, h5⟩) (fun x_84 g_84 hk_84 => ?_)
      obtain ⟨e_84, rfl⟩ := hk_84
      have e_84 := e_84.symm
      subst e_84
      refine j_if_eq C (tgt := 94) dX4_reading_87 (by decide) (by first | omega | (refine ⟨?_, ?_⟩ <;> omega) | exact hw _ _ | exact nrm_R _) (fun c_87 => ?_) (fun c_87 => ?_)
      · refine j_iconst C dX4_reading_94 ?_
        refine j_iretI C dX4_reading_95 (by intro h; cases h) (fun hw9 => ?_)
        refine ⟨rfl, ?_⟩
        unfold rReading
        rw [if_neg (by omega)]
        simp only [c_21]
        all_goals first | rfl | omega | (simp; omega)
      · refine j_iconst C dX4_reading_90 ?_
        refine j_goto C (tgt := 95) dX4_reading_91 (by decide) ?_
        refine j_iretI C dX4_reading_95 (by intro h; cases h) (fun hw9 => ?_)
        refine ⟨rfl, ?_⟩
        unfold rReading
        rw [if_neg (by omega)]
        simp only [c_21]
        all_goals first | rfl | omega | (simp; omega)
    · refine j_ldc C (-1000002) dX4_reading_96 kX4_reading_82 ?_
      refine j_iretI C dX4_reading_98 (by intro h; cases h) (fun hw9 => ?_)
      refine ⟨rfl, ?_⟩
      unfold rReading
      rw [if_neg (by omega), if_neg (by omega), if_neg (by omega), if_neg (by omega), if_neg (by omega)]
  · refine j_ldc C (-1000001) dX4_reading_17 kX4_reading_68 ?_
    refine j_iretI C dX4_reading_19 (by intro h; cases h) (fun hw9 => ?_)
    exact ⟨rfl, by unfold rReading; rw [if_pos (by omega)]⟩
set_option maxHeartbeats 4000000 in
set_option maxRecDepth 100000 in
theorem ct_X4_across {p : Int} {g : AG} (h : aR p ∧ 2 ≤ g 8 2 ∧ g 8 2 ≤ 24) : MetI yX4_across wsX4_across rmX4_across ShW [.inr 0, .inl p] g (fun x g' => g' = g ∧ x = rAcross (g 8 2) p (g 6 p.toNat = g 6 0) (nrm (g 7 0 - g 7 p.toNat))) := by
  refine metI_of (cc := cX4_across) (nL := 2) false (by decide +kernel) rfl (Nat.le_of_ble_eq_true rfl) (fun q J C => ?_)
  show J q ShW 0 0 0 [some (.inr 0), some (.inl p)] [] g
  refine j_wf C (fun hw => ?_)
  obtain ⟨hp, h2, h3⟩ := h
  refine j_aload_n C dX4_across_0 rfl ?_
  refine j_iload_n C dX4_across_1 rfl ?_
  refine j_callVi1 C vX4_across_55 rfl rfl (Nat.le_of_ble_eq_true rfl) ⟨Nat.zero_le _, Nat.zero_le _⟩ dX4_across_2 (ct_X4_isPlace ⟨hp, h2, h3⟩) (fun x_2 g_2 hk_2 => ?_)
  obtain ⟨e_2, hb_2, hi_2⟩ := hk_2
  have e_2 := e_2.symm
  subst e_2
  refine j_if_ne C (tgt := 11) dX4_across_5 (by decide) (by first | omega | (refine ⟨?_, ?_⟩ <;> omega) | exact hw _ _ | exact nrm_R _) (fun c_5 => ?_) (fun c_5 => ?_)
  · refine j_aload_n C dX4_across_11 rfl ?_
    refine j_getR C fX4_across_10 rfl rfl dX4_across_12 ?_
    refine j_iload_n C dX4_across_15 rfl ?_
    refine j_callVi1 C vX4_across_83 rfl rfl (Nat.le_of_ble_eq_true rfl) ⟨Nat.zero_le _, Nat.zero_le _⟩ dX4_across_16 (ct_X0_hasAcross (by omega)) (fun x_16 g_16 hk_16 => ?_)
    obtain ⟨e_16, hb_16, hi_16⟩ := hk_16
    have e_16 := e_16.symm
    subst e_16
    refine j_if_eq C (tgt := 33) dX4_across_19 (by decide) (by first | omega | (refine ⟨?_, ?_⟩ <;> omega) | exact hw _ _ | exact nrm_R _) (fun c_19 => ?_) (fun c_19 => ?_)
    · refine j_ldc C (-1000005) dX4_across_33 kX4_across_89 ?_
      refine j_iretI C dX4_across_35 (by intro h; cases h) (fun hw9 => ?_)
      refine ⟨rfl, ?_⟩
      unfold rAcross
      rw [if_neg (by omega)]
      first
      | (rw [cif_t (hi_16.mp (by omega))]; done)
      | (rw [cif_f (fun h => by have := hi_16.mpr h; omega)]; done)
    · refine j_aload_n C dX4_across_22 rfl ?_
      refine j_getR C fX4_across_10 rfl rfl dX4_across_23 ?_
      refine j_iload_n C dX4_across_26 rfl ?_
      refine j_callVi1 C vX4_across_86 rfl rfl (Nat.le_of_ble_eq_true rfl) ⟨Nat.zero_le _, Nat.zero_le _⟩ dX4_across_27 (ct_X0_acrossOf (by omega)) (fun x_27 g_27 hk_27 => ?_)
      obtain ⟨e_27, rfl⟩ := hk_27
      have e_27 := e_27.symm
      subst e_27
      refine j_goto C (tgt := 35) dX4_across_30 (by decide) ?_
      refine j_iretI C dX4_across_35 (by intro h; cases h) (fun hw9 => ?_)
      refine ⟨rfl, ?_⟩
      unfold rAcross
      rw [if_neg (by omega)]
      first
      | (rw [cif_t (hi_16.mp (by omega))]; done)
      | (rw [cif_f (fun h => by have := hi_16.mpr h; omega)]; done)
  · refine j_ldc C (-1000001) dX4_across_8 kX4_across_68 ?_
    refine j_iretI C dX4_across_10 (by intro h; cases h) (fun hw9 => ?_)
    exact ⟨rfl, by unfold rAcross; rw [if_pos (by omega)]⟩
set_option maxHeartbeats 4000000 in
set_option maxRecDepth 100000 in
theorem ct_X4_along {t u : Int} {g : AG} (h : aR t ∧ aR u) : MetI yX4_along wsX4_along rmX4_along ShW [.inr 0, .inl t, .inl u] g (fun x g' => g' = g ∧ x = rAlong t u (g 6 (24 + t).toNat = g 6 (24 + u).toNat) (nrm (g 7 (24 + t).toNat - g 7 (24 + u).toNat))) := by
  refine metI_of (cc := cX4_along) (nL := 3) false (by decide +kernel) rfl (Nat.le_of_ble_eq_true rfl) (fun q J C => ?_)
  show J q ShW 0 0 0 [some (.inr 0), some (.inl t), some (.inl u)] [] g
  refine j_wf C (fun hw => ?_)
  obtain ⟨h1, h2⟩ := h
  refine j_iload_n C dX4_along_0 rfl ?_
  refine j_callSi1 C vX4_along_59 rfl (Nat.le_of_ble_eq_true rfl) ⟨Nat.zero_le _, Nat.zero_le _⟩ dX4_along_1 (ct_X4_isTime h1) (fun x_1 g_1 hk_1 => ?_)
  obtain ⟨e_1, hb_1, hi_1⟩ := hk_1
  have e_1 := e_1.symm
  subst e_1
  refine j_if_eq C (tgt := 14) dX4_along_4 (by decide) (by first | omega | (refine ⟨?_, ?_⟩ <;> omega) | exact hw _ _ | exact nrm_R _) (fun c_4 => ?_) (fun c_4 => ?_)
  · refine j_ldc C (-1000001) dX4_along_14 kX4_along_68 ?_
    refine j_iretI C dX4_along_16 (by intro h; cases h) (fun hw9 => ?_)
    exact ⟨rfl, by unfold rAlong; rw [if_pos (by omega)]⟩
  · refine j_iload_n C dX4_along_7 rfl ?_
    refine j_callSi1 C vX4_along_59 rfl (Nat.le_of_ble_eq_true rfl) ⟨Nat.zero_le _, Nat.zero_le _⟩ dX4_along_8 (ct_X4_isTime h2) (fun x_8 g_8 hk_8 => ?_)
    obtain ⟨e_8, hb_8, hi_8⟩ := hk_8
    have e_8 := e_8.symm
    subst e_8
    refine j_if_ne C (tgt := 17) dX4_along_11 (by decide) (by first | omega | (refine ⟨?_, ?_⟩ <;> omega) | exact hw _ _ | exact nrm_R _) (fun c_11 => ?_) (fun c_11 => ?_)
    · refine j_aload_n C dX4_along_17 rfl ?_
      refine j_getR C fX4_along_10 rfl rfl dX4_along_18 ?_
      refine j_iload_n C dX4_along_21 rfl ?_
      refine j_iload_n C dX4_along_22 rfl ?_
      refine j_callVi2 C vX4_along_90 rfl rfl (Nat.le_of_ble_eq_true rfl) ⟨Nat.zero_le _, Nat.zero_le _⟩ dX4_along_23 (ct_X0_timesHangTogether (by omega)) (fun x_23 g_23 hk_23 => ?_)
      obtain ⟨e_23, hb_23, hi_23⟩ := hk_23
      have e_23 := e_23.symm
      subst e_23
      refine j_if_eq C (tgt := 41) dX4_along_26 (by decide) (by first | omega | (refine ⟨?_, ?_⟩ <;> omega) | exact hw _ _ | exact nrm_R _) (fun c_26 => ?_) (fun c_26 => ?_)
      · refine j_ldc C (-1000005) dX4_along_41 kX4_along_89 ?_
        refine j_iretI C dX4_along_43 (by intro h; cases h) (fun hw9 => ?_)
        refine ⟨rfl, ?_⟩
        unfold rAlong
        rw [if_neg (by omega)]
        first
        | (rw [cif_t (hi_23.mp (by omega))]; done)
        | (rw [cif_f (fun h => by have := hi_23.mpr h; omega)]; done)
      · refine j_aload_n C dX4_along_29 rfl ?_
        refine j_getR C fX4_along_10 rfl rfl dX4_along_30 ?_
        refine j_iload_n C dX4_along_33 rfl ?_
        refine j_iload_n C dX4_along_34 rfl ?_
        refine j_callVi2 C vX4_along_94 rfl rfl (Nat.le_of_ble_eq_true rfl) ⟨Nat.zero_le _, Nat.zero_le _⟩ dX4_along_35 (ct_X0_moreAlong (by omega)) (fun x_35 g_35 hk_35 => ?_)
        obtain ⟨e_35, rfl⟩ := hk_35
        have e_35 := e_35.symm
        subst e_35
        refine j_goto C (tgt := 43) dX4_along_38 (by decide) ?_
        refine j_iretI C dX4_along_43 (by intro h; cases h) (fun hw9 => ?_)
        refine ⟨rfl, ?_⟩
        unfold rAlong
        rw [if_neg (by omega)]
        first
        | (rw [cif_t (hi_23.mp (by omega))]; done)
        | (rw [cif_f (fun h => by have := hi_23.mpr h; omega)]; done)
    · refine j_ldc C (-1000001) dX4_along_14 kX4_along_68 ?_
      refine j_iretI C dX4_along_16 (by intro h; cases h) (fun hw9 => ?_)
      exact ⟨rfl, by unfold rAlong; rw [if_pos (by omega)]⟩
set_option maxHeartbeats 4000000 in
set_option maxRecDepth 100000 in
theorem ct_X4_groups {g : AG} (h : 2 ≤ g 8 2 ∧ g 8 2 ≤ 24) : MetI yX4_groups wsX4_groups rmX4_groups ShW [.inr 0] g (fun x g' => g' = g ∧ x = cntG (g 6) (g 8 2).toNat) := by
  refine metI_of (cc := cX4_groups) (nL := 1) false (by decide +kernel) rfl (Nat.le_of_ble_eq_true rfl) (fun q J C => ?_)
  show J q ShW 0 0 0 [some (.inr 0)] [] g
  refine j_wf C (fun hw => ?_)
  refine j_aload_n C dX4_groups_0 rfl ?_
  refine j_getR C fX4_groups_10 rfl rfl dX4_groups_1 ?_
  refine j_aload_n C dX4_groups_4 rfl ?_
  refine j_getR C fX4_groups_19 rfl rfl dX4_groups_5 ?_
  refine j_callVi0 C vX4_groups_43 rfl rfl (Nat.le_of_ble_eq_true rfl) ⟨Nat.zero_le _, Nat.zero_le _⟩ dX4_groups_8 (ct_X2_places ) (fun x_8 g_8 hk_8 => ?_)
  obtain ⟨e_8, rfl⟩ := hk_8
  have e_8 := e_8.symm
  subst e_8
  refine j_callVi1 C vX4_groups_98 rfl rfl (Nat.le_of_ble_eq_true rfl) ⟨Nat.zero_le _, Nat.zero_le _⟩ dX4_groups_11 (ct_X0_countGroups (by omega)) (fun x_11 g_11 hk_11 => ?_)
  obtain ⟨e_11, rfl⟩ := hk_11
  have e_11 := e_11.symm
  subst e_11
  refine j_iretI C dX4_groups_14 (by intro h; cases h) (fun hw9 => ?_)
  exact ⟨rfl, rfl⟩
set_option maxHeartbeats 4000000 in
set_option maxRecDepth 100000 in
theorem ct_X4_take {g : AG} (h : 2 ≤ g 8 2 ∧ g 8 2 ≤ 24) : MetI yX4_take wsX4_take rmX4_take ShW [.inr 0] g (fun x g' => x = cif (takeP (g 8 2).toNat (fun p => g 6 p = g 6 0) (fun p => nrm (g 7 0 - g 7 p))) 1 (-5) ∧ g' = (if x = 1 then row g 9 (fillU (g 9) (g 8 2).toNat (fun p => nrm (g 7 0 - g 7 p))) else g)) := by
  refine metI_of (cc := cX4_take) (nL := 3) false (by decide +kernel) rfl (Nat.le_of_ble_eq_true rfl) (fun q J C => ?_)
  show J q ShW 0 0 0 [some (.inr 0), none, none] [] g
  refine j_wf C (fun hw => ?_)
  obtain ⟨h2, h3⟩ := h
  have lp2 : takeP (g 8 2).toNat (fun p => g 6 p = g 6 0) (fun p => nrm (g 7 0 - g 7 p)) → ∀ k : Nat, ∀ (i : Int), (g 8 2 - i).toNat = k → 0 ≤ i → i ≤ g 8 2 → J q ShW 0 0 57 [some (.inr 0), some (.inl (g 8 2)), some (.inl i)] [] (row g 9 (fillU (g 9) i.toNat (fun p => nrm (g 7 0 - g 7 p)))) := by
    intro hT
    refine byN _ (fun k ih i hn2 h0 h1 => ?_)
    refine j_iload_n C dX4_take_57 rfl ?_
    refine j_iload_n C dX4_take_58 rfl ?_
    refine j_icmp_ge C (tgt := 84) dX4_take_59 (by decide) (by first | omega | (refine ⟨?_, ?_⟩ <;> omega) | exact hw _ _ | exact nrm_R _) (by first | omega | (refine ⟨?_, ?_⟩ <;> omega) | exact hw _ _ | exact nrm_R _) (fun c_59 => ?_) (fun c_59 => ?_)
    · refine j_iconst C dX4_take_84 ?_
      refine j_iretI C dX4_take_85 (by intro h; cases h) (fun hw9 => ?_)
      refine ⟨?_, ?_⟩
      · rw [cif_t hT]
      · rw [if_pos rfl, show i.toNat = (g 8 2).toNat by omega]
    · refine j_aload_n C dX4_take_62 rfl ?_
      refine j_getR C fX4_take_19 rfl rfl dX4_take_63 ?_
      refine j_iload_n C dX4_take_66 rfl ?_
      refine j_aload_n C dX4_take_67 rfl ?_
      refine j_getR C fX4_take_10 rfl rfl dX4_take_68 ?_
      refine j_iload_n C dX4_take_71 rfl ?_
      refine j_callVi1 C vX4_take_86 rfl rfl (Nat.le_of_ble_eq_true rfl) ⟨Nat.zero_le _, Nat.zero_le _⟩ dX4_take_72 (ct_X0_acrossOf (by omega)) (fun x_72 g_72 hk_72 => ?_)
      obtain ⟨e_72, rfl⟩ := hk_72
      have e_72 := e_72.symm
      subst e_72
      refine j_callVv2 C vX4_take_101 rfl rfl (Nat.le_of_ble_eq_true rfl) ⟨Nat.zero_le _, Nat.zero_le _⟩ dX4_take_75 (ct_X2_putBase ⟨by omega, by omega, nrm_R _⟩) (fun g_75 hk_75 => ?_)
      subst hk_75
      refine j_iinc C dX4_take_78 rfl ?_
      dsimp only [List.set]
      refine j_goto C (tgt := 57) dX4_take_81 (by decide) ?_
      refine j_cast (ih _ (by omega) (i + 1) rfl (by omega) (by omega)) rfl rfl ?_
      rw [show (i + 1).toNat = i.toNat + 1 by omega, fillU_s]
      funext k' j
      by_cases a6 : k' = 9
      · subst a6
        simp [row, aset]
      · simp [row, aset, a6]
  have lp : ∀ k : Nat, ∀ (i : Int), (g 8 2 - i).toNat = k → 0 ≤ i → i ≤ g 8 2 → takeP i.toNat (fun p => g 6 p = g 6 0) (fun p => nrm (g 7 0 - g 7 p)) → J q ShW 0 0 10 [some (.inr 0), some (.inl (g 8 2)), some (.inl i)] [] g := by
    refine byN _ (fun k ih i hn2 h0 h1 hT => ?_)
    refine j_iload_n C dX4_take_10 rfl ?_
    refine j_iload_n C dX4_take_11 rfl ?_
    refine j_icmp_ge C (tgt := 55) dX4_take_12 (by decide) (by first | omega | (refine ⟨?_, ?_⟩ <;> omega) | exact hw _ _ | exact nrm_R _) (by first | omega | (refine ⟨?_, ?_⟩ <;> omega) | exact hw _ _ | exact nrm_R _) (fun c_12 => ?_) (fun c_12 => ?_)
    · refine j_iconst C dX4_take_55 ?_
      refine j_istore_n C dX4_take_56 (Nat.le_of_ble_eq_true rfl) ?_
      dsimp only [List.set]
      refine j_cast (lp2 (by rw [show (g 8 2).toNat = i.toNat by omega]; exact hT) _ 0 rfl (by omega) (by omega)) rfl rfl ?_
      rw [show (0 : Int).toNat = 0 from rfl, fillU_0, row_id]
    · refine j_aload_n C dX4_take_15 rfl ?_
      refine j_getR C fX4_take_10 rfl rfl dX4_take_16 ?_
      refine j_iload_n C dX4_take_19 rfl ?_
      refine j_callVi1 C vX4_take_83 rfl rfl (Nat.le_of_ble_eq_true rfl) ⟨Nat.zero_le _, Nat.zero_le _⟩ dX4_take_20 (ct_X0_hasAcross (by omega)) (fun x_20 g_20 hk_20 => ?_)
      obtain ⟨e_20, hb_20, hi_20⟩ := hk_20
      have e_20 := e_20.symm
      subst e_20
      refine j_if_eq C (tgt := 46) dX4_take_23 (by decide) (by first | omega | (refine ⟨?_, ?_⟩ <;> omega) | exact hw _ _ | exact nrm_R _) (fun c_23 => ?_) (fun c_23 => ?_)
      · refine j_bipush C dX4_take_46 (by decide +kernel) ?_
        refine j_iretI C dX4_take_48 (by intro h; cases h) (fun hw9 => ?_)
        refine ⟨?_, by rw [if_neg (by decide)]⟩
        rw [cif_f]
        intro hh
        have h9 := hh i.toNat (by omega)
        first
        | (have := hi_20.mpr h9.1; omega)
        | (have := hi_40.mpr ⟨h9.2.1, h9.2.2⟩; omega)
      · refine j_aload_n C dX4_take_26 rfl ?_
        refine j_getR C fX4_take_10 rfl rfl dX4_take_27 ?_
        refine j_iload_n C dX4_take_30 rfl ?_
        refine j_callVi1 C vX4_take_86 rfl rfl (Nat.le_of_ble_eq_true rfl) ⟨Nat.zero_le _, Nat.zero_le _⟩ dX4_take_31 (ct_X0_acrossOf (by omega)) (fun x_31 g_31 hk_31 => ?_)
        obtain ⟨e_31, rfl⟩ := hk_31
        have e_31 := e_31.symm
        subst e_31
        refine j_sipush C dX4_take_34 (by decide +kernel) ?_
        refine j_sipush C dX4_take_37 (by decide +kernel) ?_
        refine j_callSi3 C vX4_take_39 rfl (Nat.le_of_ble_eq_true rfl) ⟨Nat.zero_le _, Nat.zero_le _⟩ dX4_take_40 (ct_X4_within ⟨nrm_R _, ⟨by omega, by omega⟩, ⟨by omega, by omega⟩⟩) (fun x_40 g_40 hk_40 => ?_)
        obtain ⟨e_40, hb_40, hi_40⟩ := hk_40
        have e_40 := e_40.symm
        subst e_40
        refine j_if_ne C (tgt := 49) dX4_take_43 (by decide) (by first | omega | (refine ⟨?_, ?_⟩ <;> omega) | exact hw _ _ | exact nrm_R _) (fun c_43 => ?_) (fun c_43 => ?_)
        · refine j_iinc C dX4_take_49 rfl ?_
          dsimp only [List.set]
          refine j_goto C (tgt := 10) dX4_take_52 (by decide) ?_
          refine ih _ (by omega) (i + 1) rfl (by omega) (by omega) (fun j hj => ?_)
          by_cases hji : j = i.toNat
          · subst hji
            have q1 := hi_20.mp (by omega)
            have q2 := hi_40.mp (by omega)
            exact ⟨q1, q2.1, q2.2⟩
          · exact hT j (by omega)
        · refine j_bipush C dX4_take_46 (by decide +kernel) ?_
          refine j_iretI C dX4_take_48 (by intro h; cases h) (fun hw9 => ?_)
          refine ⟨?_, by rw [if_neg (by decide)]⟩
          rw [cif_f]
          intro hh
          have h9 := hh i.toNat (by omega)
          first
          | (have := hi_20.mpr h9.1; omega)
          | (have := hi_40.mpr ⟨h9.2.1, h9.2.2⟩; omega)
  refine j_aload_n C dX4_take_0 rfl ?_
  refine j_getR C fX4_take_19 rfl rfl dX4_take_1 ?_
  refine j_callVi0 C vX4_take_43 rfl rfl (Nat.le_of_ble_eq_true rfl) ⟨Nat.zero_le _, Nat.zero_le _⟩ dX4_take_4 (ct_X2_places ) (fun x_4 g_4 hk_4 => ?_)
  obtain ⟨e_4, rfl⟩ := hk_4
  have e_4 := e_4.symm
  subst e_4
  refine j_istore_n C dX4_take_7 (Nat.le_of_ble_eq_true rfl) ?_
  dsimp only [List.set]
  refine j_iconst C dX4_take_8 ?_
  refine j_istore_n C dX4_take_9 (Nat.le_of_ble_eq_true rfl) ?_
  dsimp only [List.set]
  exact lp _ 0 rfl (by omega) (by omega) (fun j hj => absurd hj (by simp))
set_option maxHeartbeats 4000000 in
set_option maxRecDepth 100000 in
theorem ct_X4_clear {g : AG} : MetI yX4_clear wsX4_clear rmX4_clear ShW [.inr 0] g (fun x g' => x = g 1 4 ∧ g' = eyeF g) := by
  refine metI_of (cc := cX4_clear) (nL := 2) false (by decide +kernel) rfl (Nat.le_of_ble_eq_true rfl) (fun q J C => ?_)
  show J q ShW 0 0 0 [some (.inr 0), none] [] g
  refine j_wf C (fun hw => ?_)
  refine j_aload_n C dX4_clear_0 rfl ?_
  refine j_getR C fX4_clear_10 rfl rfl dX4_clear_1 ?_
  refine j_callVi0 C vX4_clear_62 rfl rfl (Nat.le_of_ble_eq_true rfl) ⟨Nat.zero_le _, Nat.zero_le _⟩ dX4_clear_4 (ct_X0_count ) (fun x_4 g_4 hk_4 => ?_)
  obtain ⟨e_4, rfl⟩ := hk_4
  have e_4 := e_4.symm
  subst e_4
  refine j_istore_n C dX4_clear_7 (Nat.le_of_ble_eq_true rfl) ?_
  dsimp only [List.set]
  refine j_aload_n C dX4_clear_8 rfl ?_
  refine j_getR C fX4_clear_10 rfl rfl dX4_clear_9 ?_
  refine j_callVv0 C vX4_clear_47 rfl rfl (Nat.le_of_ble_eq_true rfl) ⟨Nat.zero_le _, Nat.zero_le _⟩ dX4_clear_12 (ct_X0_forget ) (fun g_12 hk_12 => ?_)
  subst hk_12
  refine j_iload_n C dX4_clear_15 rfl ?_
  refine j_iretI C dX4_clear_16 (by intro h; cases h) (fun hw9 => ?_)
  exact ⟨rfl, rfl⟩
set_option maxHeartbeats 4000000 in
set_option maxRecDepth 100000 in
theorem ct_X4_laws {a b : Int} {g : AG} (h : LX g ∧ aR a ∧ aR b) : MetI yX4_laws wsX4_laws rmX4_laws ShW [.inr 0, .inl a, .inl b] g (fun x g' => x = rLaws (g 10) (g 8 2) a b ∧ g' = (if x = 1 then aset (aset g 8 3 a) 8 4 b else g)) := by
  refine metI_of (cc := cX4_laws) (nL := 3) false (by decide +kernel) rfl (Nat.le_of_ble_eq_true rfl) (fun q J C => ?_)
  show J q ShW 0 0 0 [some (.inr 0), some (.inl a), some (.inl b)] [] g
  refine j_wf C (fun hw => ?_)
  obtain ⟨hL, ha, hb⟩ := h
  refine j_iload_n C dX4_laws_0 rfl ?_
  refine j_iconst C dX4_laws_1 ?_
  refine j_bipush C dX4_laws_2 (by decide +kernel) ?_
  refine j_callSi3 C vX4_laws_39 rfl (Nat.le_of_ble_eq_true rfl) ⟨Nat.zero_le _, Nat.zero_le _⟩ dX4_laws_4 (ct_X4_within ⟨ha, ⟨by omega, by omega⟩, ⟨by omega, by omega⟩⟩) (fun x_4 g_4 hk_4 => ?_)
  obtain ⟨e_4, hb_4, hi_4⟩ := hk_4
  have e_4 := e_4.symm
  subst e_4
  refine j_if_eq C (tgt := 20) dX4_laws_7 (by decide) (by first | omega | (refine ⟨?_, ?_⟩ <;> omega) | exact hw _ _ | exact nrm_R _) (fun c_7 => ?_) (fun c_7 => ?_)
  · refine j_bipush C dX4_laws_20 (by decide +kernel) ?_
    refine j_iretI C dX4_laws_22 (by intro h; cases h) (fun hw9 => ?_)
    unfold rLaws
    rw [if_neg (by omega)]
    exact ⟨rfl, by rw [if_neg (by decide)]⟩
  · refine j_iload_n C dX4_laws_10 rfl ?_
    refine j_iconst C dX4_laws_11 ?_
    refine j_bipush C dX4_laws_12 (by decide +kernel) ?_
    refine j_callSi3 C vX4_laws_39 rfl (Nat.le_of_ble_eq_true rfl) ⟨Nat.zero_le _, Nat.zero_le _⟩ dX4_laws_14 (ct_X4_within ⟨hb, ⟨by omega, by omega⟩, ⟨by omega, by omega⟩⟩) (fun x_14 g_14 hk_14 => ?_)
    obtain ⟨e_14, hb_14, hi_14⟩ := hk_14
    have e_14 := e_14.symm
    subst e_14
    refine j_if_ne C (tgt := 23) dX4_laws_17 (by decide) (by first | omega | (refine ⟨?_, ?_⟩ <;> omega) | exact hw _ _ | exact nrm_R _) (fun c_17 => ?_) (fun c_17 => ?_)
    · refine j_aload_n C dX4_laws_23 rfl ?_
      refine j_getR C fX4_laws_19 rfl rfl dX4_laws_24 ?_
      refine j_iload_n C dX4_laws_27 rfl ?_
      refine j_iload_n C dX4_laws_28 rfl ?_
      refine j_callVi2 C vX4_laws_105 rfl rfl (Nat.le_of_ble_eq_true rfl) ⟨Nat.zero_le _, Nat.zero_le _⟩ dX4_laws_29 (ct_X2_isLawful ⟨hL, ha, hb⟩) (fun x_29 g_29 hk_29 => ?_)
      obtain ⟨e_29, hb_29, hi_29⟩ := hk_29
      have e_29 := e_29.symm
      subst e_29
      refine j_if_ne C (tgt := 38) dX4_laws_32 (by decide) (by first | omega | (refine ⟨?_, ?_⟩ <;> omega) | exact hw _ _ | exact nrm_R _) (fun c_32 => ?_) (fun c_32 => ?_)
      · refine j_aload_n C dX4_laws_38 rfl ?_
        refine j_getR C fX4_laws_19 rfl rfl dX4_laws_39 ?_
        refine j_iload_n C dX4_laws_42 rfl ?_
        refine j_iload_n C dX4_laws_43 rfl ?_
        refine j_callVv2 C vX4_laws_108 rfl rfl (Nat.le_of_ble_eq_true rfl) ⟨Nat.zero_le _, Nat.zero_le _⟩ dX4_laws_44 (ct_X2_putLaws ⟨ha, hb⟩) (fun g_44 hk_44 => ?_)
        subst hk_44
        refine j_iconst C dX4_laws_47 ?_
        refine j_iretI C dX4_laws_48 (by intro h; cases h) (fun hw9 => ?_)
        unfold rLaws
        rw [if_pos (by omega), cif_t (hi_29.mp (by omega))]
        exact ⟨rfl, by rw [if_pos rfl]⟩
      · refine j_bipush C dX4_laws_35 (by decide +kernel) ?_
        refine j_iretI C dX4_laws_37 (by intro h; cases h) (fun hw9 => ?_)
        unfold rLaws
        rw [if_pos (by omega), cif_f (fun h => by have := hi_29.mpr h; omega)]
        exact ⟨rfl, by rw [if_neg (by decide)]⟩
    · refine j_bipush C dX4_laws_20 (by decide +kernel) ?_
      refine j_iretI C dX4_laws_22 (by intro h; cases h) (fun hw9 => ?_)
      unfold rLaws
      rw [if_neg (by omega)]
      exact ⟨rfl, by rw [if_neg (by decide)]⟩
set_option maxHeartbeats 4000000 in
set_option maxRecDepth 100000 in
theorem ct_X4_spread {a b : Int} {g : AG} (h : aR a ∧ aR b) : MetI yX4_spread wsX4_spread rmX4_spread ShW [.inr 0, .inl a, .inl b] g (fun x g' => x = rSpread a b ∧ g' = (if x = 1 then aset (aset g 8 5 a) 8 6 b else g)) := by
  refine metI_of (cc := cX4_spread) (nL := 3) false (by decide +kernel) rfl (Nat.le_of_ble_eq_true rfl) (fun q J C => ?_)
  show J q ShW 0 0 0 [some (.inr 0), some (.inl a), some (.inl b)] [] g
  refine j_wf C (fun hw => ?_)
  obtain ⟨ha, hb⟩ := h
  refine j_iload_n C dX4_spread_0 rfl ?_
  refine j_iconst C dX4_spread_1 ?_
  refine j_bipush C dX4_spread_2 (by decide +kernel) ?_
  refine j_callSi3 C vX4_spread_39 rfl (Nat.le_of_ble_eq_true rfl) ⟨Nat.zero_le _, Nat.zero_le _⟩ dX4_spread_4 (ct_X4_within ⟨ha, ⟨by omega, by omega⟩, ⟨by omega, by omega⟩⟩) (fun x_4 g_4 hk_4 => ?_)
  obtain ⟨e_4, hb_4, hi_4⟩ := hk_4
  have e_4 := e_4.symm
  subst e_4
  refine j_if_eq C (tgt := 20) dX4_spread_7 (by decide) (by first | omega | (refine ⟨?_, ?_⟩ <;> omega) | exact hw _ _ | exact nrm_R _) (fun c_7 => ?_) (fun c_7 => ?_)
  · refine j_bipush C dX4_spread_20 (by decide +kernel) ?_
    refine j_iretI C dX4_spread_22 (by intro h; cases h) (fun hw9 => ?_)
    unfold rSpread
    rw [if_neg (by omega)]
    exact ⟨rfl, by rw [if_neg (by decide)]⟩
  · refine j_iload_n C dX4_spread_10 rfl ?_
    refine j_bipush C dX4_spread_11 (by decide +kernel) ?_
    refine j_iconst C dX4_spread_13 ?_
    refine j_callSi3 C vX4_spread_39 rfl (Nat.le_of_ble_eq_true rfl) ⟨Nat.zero_le _, Nat.zero_le _⟩ dX4_spread_14 (ct_X4_within ⟨hb, ⟨by omega, by omega⟩, ⟨by omega, by omega⟩⟩) (fun x_14 g_14 hk_14 => ?_)
    obtain ⟨e_14, hb_14, hi_14⟩ := hk_14
    have e_14 := e_14.symm
    subst e_14
    refine j_if_ne C (tgt := 23) dX4_spread_17 (by decide) (by first | omega | (refine ⟨?_, ?_⟩ <;> omega) | exact hw _ _ | exact nrm_R _) (fun c_17 => ?_) (fun c_17 => ?_)
    · refine j_aload_n C dX4_spread_23 rfl ?_
      refine j_getR C fX4_spread_19 rfl rfl dX4_spread_24 ?_
      refine j_iload_n C dX4_spread_27 rfl ?_
      refine j_iload_n C dX4_spread_28 rfl ?_
      refine j_callVv2 C vX4_spread_111 rfl rfl (Nat.le_of_ble_eq_true rfl) ⟨Nat.zero_le _, Nat.zero_le _⟩ dX4_spread_29 (ct_X2_putSpread ⟨ha, hb⟩) (fun g_29 hk_29 => ?_)
      subst hk_29
      refine j_iconst C dX4_spread_32 ?_
      refine j_iretI C dX4_spread_33 (by intro h; cases h) (fun hw9 => ?_)
      unfold rSpread
      rw [if_pos (by omega)]
      exact ⟨rfl, by rw [if_pos rfl]⟩
    · refine j_bipush C dX4_spread_20 (by decide +kernel) ?_
      refine j_iretI C dX4_spread_22 (by intro h; cases h) (fun hw9 => ?_)
      unfold rSpread
      rw [if_neg (by omega)]
      exact ⟨rfl, by rw [if_neg (by decide)]⟩
set_option maxHeartbeats 4000000 in
set_option maxRecDepth 100000 in
theorem ct_X4_base {p v : Int} {g : AG} (h : aR p ∧ aR v ∧ 2 ≤ g 8 2 ∧ g 8 2 ≤ 24) : MetI yX4_base wsX4_base rmX4_base ShW [.inr 0, .inl p, .inl v] g (fun x g' => x = rBase (g 8 2) p v ∧ g' = (if x = 1 then aset g 9 p.toNat v else g)) := by
  refine metI_of (cc := cX4_base) (nL := 3) false (by decide +kernel) rfl (Nat.le_of_ble_eq_true rfl) (fun q J C => ?_)
  show J q ShW 0 0 0 [some (.inr 0), some (.inl p), some (.inl v)] [] g
  refine j_wf C (fun hw => ?_)
  obtain ⟨hp, hv, h2, h3⟩ := h
  refine j_aload_n C dX4_base_0 rfl ?_
  refine j_iload_n C dX4_base_1 rfl ?_
  refine j_callVi1 C vX4_base_55 rfl rfl (Nat.le_of_ble_eq_true rfl) ⟨Nat.zero_le _, Nat.zero_le _⟩ dX4_base_2 (ct_X4_isPlace ⟨hp, h2, h3⟩) (fun x_2 g_2 hk_2 => ?_)
  obtain ⟨e_2, hb_2, hi_2⟩ := hk_2
  have e_2 := e_2.symm
  subst e_2
  refine j_if_ne C (tgt := 10) dX4_base_5 (by decide) (by first | omega | (refine ⟨?_, ?_⟩ <;> omega) | exact hw _ _ | exact nrm_R _) (fun c_5 => ?_) (fun c_5 => ?_)
  · refine j_iload_n C dX4_base_10 rfl ?_
    refine j_sipush C dX4_base_11 (by decide +kernel) ?_
    refine j_sipush C dX4_base_14 (by decide +kernel) ?_
    refine j_callSi3 C vX4_base_39 rfl (Nat.le_of_ble_eq_true rfl) ⟨Nat.zero_le _, Nat.zero_le _⟩ dX4_base_17 (ct_X4_within ⟨hv, ⟨by omega, by omega⟩, ⟨by omega, by omega⟩⟩) (fun x_17 g_17 hk_17 => ?_)
    obtain ⟨e_17, hb_17, hi_17⟩ := hk_17
    have e_17 := e_17.symm
    subst e_17
    refine j_if_ne C (tgt := 26) dX4_base_20 (by decide) (by first | omega | (refine ⟨?_, ?_⟩ <;> omega) | exact hw _ _ | exact nrm_R _) (fun c_20 => ?_) (fun c_20 => ?_)
    · refine j_aload_n C dX4_base_26 rfl ?_
      refine j_getR C fX4_base_19 rfl rfl dX4_base_27 ?_
      refine j_iload_n C dX4_base_30 rfl ?_
      refine j_iload_n C dX4_base_31 rfl ?_
      refine j_callVv2 C vX4_base_101 rfl rfl (Nat.le_of_ble_eq_true rfl) ⟨Nat.zero_le _, Nat.zero_le _⟩ dX4_base_32 (ct_X2_putBase ⟨by omega, by omega, hv⟩) (fun g_32 hk_32 => ?_)
      subst hk_32
      refine j_iconst C dX4_base_35 ?_
      refine j_iretI C dX4_base_36 (by intro h; cases h) (fun hw9 => ?_)
      unfold rBase
      rw [if_neg (by omega), if_pos (by omega)]
      exact ⟨rfl, by rw [if_pos rfl]⟩
    · refine j_bipush C dX4_base_23 (by decide +kernel) ?_
      refine j_iretI C dX4_base_25 (by intro h; cases h) (fun hw9 => ?_)
      unfold rBase
      rw [if_neg (by omega), if_neg (by omega)]
      exact ⟨rfl, by rw [if_neg (by decide)]⟩
  · refine j_iconst C dX4_base_8 ?_
    refine j_iretI C dX4_base_9 (by intro h; cases h) (fun hw9 => ?_)
    unfold rBase
    rw [if_pos (by omega)]
    exact ⟨rfl, by rw [if_neg (by decide)]⟩
set_option maxHeartbeats 4000000 in
set_option maxRecDepth 100000 in
theorem ct_X4_set {p v : Int} {g : AG} (h : LX g ∧ aR p ∧ aR v) : MetI yX4_set wsX4_set rmX4_set ShW [.inr 0, .inl p, .inl v] g (fun x g' => x = rSet (g 10) (g 8 2) (g 8 3) (g 8 4) p v ∧ g' = (if x = 1 then aset g 10 p.toNat v else g)) := by
  refine metI_of (cc := cX4_set) (nL := 3) false (by decide +kernel) rfl (Nat.le_of_ble_eq_true rfl) (fun q J C => ?_)
  show J q ShW 0 0 0 [some (.inr 0), some (.inl p), some (.inl v)] [] g
  refine j_wf C (fun hw => ?_)
  obtain ⟨hL, hp, hv⟩ := h
  have hn := hL.1
  refine j_aload_n C dX4_set_0 rfl ?_
  refine j_iload_n C dX4_set_1 rfl ?_
  refine j_callVi1 C vX4_set_55 rfl rfl (Nat.le_of_ble_eq_true rfl) ⟨Nat.zero_le _, Nat.zero_le _⟩ dX4_set_2 (ct_X4_isPlace ⟨hp, by omega, by omega⟩) (fun x_2 g_2 hk_2 => ?_)
  obtain ⟨e_2, hb_2, hi_2⟩ := hk_2
  have e_2 := e_2.symm
  subst e_2
  refine j_if_ne C (tgt := 10) dX4_set_5 (by decide) (by first | omega | (refine ⟨?_, ?_⟩ <;> omega) | exact hw _ _ | exact nrm_R _) (fun c_5 => ?_) (fun c_5 => ?_)
  · refine j_iload_n C dX4_set_10 rfl ?_
    refine j_bipush C dX4_set_11 (by decide +kernel) ?_
    refine j_bipush C dX4_set_13 (by decide +kernel) ?_
    refine j_callSi3 C vX4_set_39 rfl (Nat.le_of_ble_eq_true rfl) ⟨Nat.zero_le _, Nat.zero_le _⟩ dX4_set_15 (ct_X4_within ⟨hv, ⟨by omega, by omega⟩, ⟨by omega, by omega⟩⟩) (fun x_15 g_15 hk_15 => ?_)
    obtain ⟨e_15, hb_15, hi_15⟩ := hk_15
    have e_15 := e_15.symm
    subst e_15
    refine j_if_ne C (tgt := 24) dX4_set_18 (by decide) (by first | omega | (refine ⟨?_, ?_⟩ <;> omega) | exact hw _ _ | exact nrm_R _) (fun c_18 => ?_) (fun c_18 => ?_)
    · refine j_aload_n C dX4_set_24 rfl ?_
      refine j_getR C fX4_set_19 rfl rfl dX4_set_25 ?_
      refine j_iload_n C dX4_set_28 rfl ?_
      refine j_iload_n C dX4_set_29 rfl ?_
      refine j_callVi2 C vX4_set_114 rfl rfl (Nat.le_of_ble_eq_true rfl) ⟨Nat.zero_le _, Nat.zero_le _⟩ dX4_set_30 (ct_X2_trySetting ⟨hL, by omega, by omega, by omega, by omega⟩) (fun x_30 g_30 hk_30 => ?_)
      obtain ⟨hb_30, hi_30, rfl⟩ := hk_30
      refine j_if_eq C (tgt := 40) dX4_set_33 (by decide) (by first | omega | (refine ⟨?_, ?_⟩ <;> omega) | exact hw _ _ | exact nrm_R _) (fun c_33 => ?_) (fun c_33 => ?_)
      · refine j_bipush C dX4_set_40 (by decide +kernel) ?_
        refine j_iretI C dX4_set_42 (by intro h; cases h) (fun hw9 => ?_)
        unfold rSet
        rw [if_neg (by omega), if_pos (by omega)]
        first
        | (have e1 : x_30 = 0 := by omega
           subst e1
           rw [cif_f (fun h => by have := hi_30.mpr h; omega)]
           exact ⟨rfl, by rw [if_neg (by decide), if_neg (by decide)]⟩)
        | (have e1 : x_30 = 1 := by omega
           subst e1
           rw [cif_t (hi_30.mp rfl)]
           exact ⟨rfl, by rw [if_pos rfl]⟩)
      · refine j_iconst C dX4_set_36 ?_
        refine j_goto C (tgt := 42) dX4_set_37 (by decide) ?_
        refine j_iretI C dX4_set_42 (by intro h; cases h) (fun hw9 => ?_)
        unfold rSet
        rw [if_neg (by omega), if_pos (by omega)]
        first
        | (have e1 : x_30 = 0 := by omega
           subst e1
           rw [cif_f (fun h => by have := hi_30.mpr h; omega)]
           exact ⟨rfl, by rw [if_neg (by decide), if_neg (by decide)]⟩)
        | (have e1 : x_30 = 1 := by omega
           subst e1
           rw [cif_t (hi_30.mp rfl)]
           exact ⟨rfl, by rw [if_pos rfl]⟩)
    · refine j_bipush C dX4_set_21 (by decide +kernel) ?_
      refine j_iretI C dX4_set_23 (by intro h; cases h) (fun hw9 => ?_)
      unfold rSet
      rw [if_neg (by omega), if_neg (by omega)]
      exact ⟨rfl, by rw [if_neg (by decide)]⟩
  · refine j_iconst C dX4_set_8 ?_
    refine j_iretI C dX4_set_9 (by intro h; cases h) (fun hw9 => ?_)
    unfold rSet
    rw [if_pos (by omega)]
    exact ⟨rfl, by rw [if_neg (by decide)]⟩
set_option maxHeartbeats 4000000 in
set_option maxRecDepth 100000 in
theorem ct_X4_about {p w : Int} {g : AG} (h : LX g ∧ aR p ∧ aR w) : MetI yX4_about wsX4_about rmX4_about ShW [.inr 0, .inl p, .inl w] g (fun x g' => g' = g ∧ x = rAbout (g 9) (g 10) (g 8 5) (g 8 6) (g 8 2) p w) := by
  refine metI_of (cc := cX4_about) (nL := 3) false (by decide +kernel) rfl (Nat.le_of_ble_eq_true rfl) (fun q J C => ?_)
  show J q ShW 0 0 0 [some (.inr 0), some (.inl p), some (.inl w)] [] g
  refine j_wf C (fun hw => ?_)
  obtain ⟨hL, hp, hv⟩ := h
  have hn := hL.1
  refine j_aload_n C dX4_about_0 rfl ?_
  refine j_iload_n C dX4_about_1 rfl ?_
  refine j_callVi1 C vX4_about_55 rfl rfl (Nat.le_of_ble_eq_true rfl) ⟨Nat.zero_le _, Nat.zero_le _⟩ dX4_about_2 (ct_X4_isPlace ⟨hp, by omega, by omega⟩) (fun x_2 g_2 hk_2 => ?_)
  obtain ⟨e_2, hb_2, hi_2⟩ := hk_2
  have e_2 := e_2.symm
  subst e_2
  refine j_if_ne C (tgt := 11) dX4_about_5 (by decide) (by first | omega | (refine ⟨?_, ?_⟩ <;> omega) | exact hw _ _ | exact nrm_R _) (fun c_5 => ?_) (fun c_5 => ?_)
  · refine j_iload_n C dX4_about_11 rfl ?_
    refine j_tsw3 C (td := 67) (t0 := 40) (t1 := 49) (t2 := 58) dX4_about_12 (by decide) ⟨by decide, by decide, by decide⟩ (by exact hv) (fun c_12 => ?_) (fun c_12 => ?_) (fun c_12 => ?_) (fun c_12 => ?_)
    · refine j_aload_n C dX4_about_40 rfl ?_
      refine j_getR C fX4_about_19 rfl rfl dX4_about_41 ?_
      refine j_iload_n C dX4_about_44 rfl ?_
      refine j_callVi1 C vX4_about_117 rfl rfl (Nat.le_of_ble_eq_true rfl) ⟨Nat.zero_le _, Nat.zero_le _⟩ dX4_about_45 (ct_X2_settingOf (by omega)) (fun x_45 g_45 hk_45 => ?_)
      obtain ⟨e_45, rfl⟩ := hk_45
      have e_45 := e_45.symm
      subst e_45
      refine j_iretI C dX4_about_48 (by intro h; cases h) (fun hw9 => ?_)
      refine ⟨rfl, ?_⟩
      unfold rAbout
      rw [if_neg (by omega)]
      simp only [c_12]
      all_goals first | rfl | (simp; done)
    · refine j_aload_n C dX4_about_49 rfl ?_
      refine j_getR C fX4_about_19 rfl rfl dX4_about_50 ?_
      refine j_iload_n C dX4_about_53 rfl ?_
      refine j_callVi1 C vX4_about_120 rfl rfl (Nat.le_of_ble_eq_true rfl) ⟨Nat.zero_le _, Nat.zero_le _⟩ dX4_about_54 (ct_X2_baseOf (by omega)) (fun x_54 g_54 hk_54 => ?_)
      obtain ⟨e_54, rfl⟩ := hk_54
      have e_54 := e_54.symm
      subst e_54
      refine j_iretI C dX4_about_57 (by intro h; cases h) (fun hw9 => ?_)
      refine ⟨rfl, ?_⟩
      unfold rAbout
      rw [if_neg (by omega)]
      simp only [c_12]
      all_goals first | rfl | (simp; done)
    · refine j_aload_n C dX4_about_58 rfl ?_
      refine j_getR C fX4_about_19 rfl rfl dX4_about_59 ?_
      refine j_iload_n C dX4_about_62 rfl ?_
      refine j_callVi1 C vX4_about_123 rfl rfl (Nat.le_of_ble_eq_true rfl) ⟨Nat.zero_le _, Nat.zero_le _⟩ dX4_about_63 (ct_X2_errorOf ⟨hL, by omega, by omega⟩) (fun x_63 g_63 hk_63 => ?_)
      obtain ⟨e_63, rfl⟩ := hk_63
      have e_63 := e_63.symm
      subst e_63
      refine j_iretI C dX4_about_66 (by intro h; cases h) (fun hw9 => ?_)
      refine ⟨rfl, ?_⟩
      unfold rAbout
      rw [if_neg (by omega)]
      simp only [c_12]
      all_goals first | rfl | (simp; done)
    · refine j_ldc C (-1000002) dX4_about_67 kX4_about_82 ?_
      refine j_iretI C dX4_about_69 (by intro h; cases h) (fun hw9 => ?_)
      refine ⟨rfl, ?_⟩
      unfold rAbout
      rw [if_neg (by omega), if_neg (by omega), if_neg (by omega), if_neg (by omega)]
  · refine j_ldc C (-1000001) dX4_about_8 kX4_about_68 ?_
    refine j_iretI C dX4_about_10 (by intro h; cases h) (fun hw9 => ?_)
    exact ⟨rfl, by unfold rAbout; rw [if_pos (by omega)]⟩
set_option maxHeartbeats 4000000 in
set_option maxRecDepth 100000 in
theorem ct_X4_uneven {k : Int} {g : AG} (h : LX g ∧ aR k) : MetI yX4_uneven wsX4_uneven rmX4_uneven ShW [.inr 0, .inl k] g (fun x g' => g' = g ∧ x = rUneven (szX g) (g 8 2) k) := by
  refine metI_of (cc := cX4_uneven) (nL := 2) false (by decide +kernel) rfl (Nat.le_of_ble_eq_true rfl) (fun q J C => ?_)
  show J q ShW 0 0 0 [some (.inr 0), some (.inl k)] [] g
  refine j_wf C (fun hw => ?_)
  obtain ⟨hL, hk⟩ := h
  refine j_iload_n C dX4_uneven_0 rfl ?_
  refine j_iconst C dX4_uneven_1 ?_
  refine j_iconst C dX4_uneven_2 ?_
  refine j_callSi3 C vX4_uneven_39 rfl (Nat.le_of_ble_eq_true rfl) ⟨Nat.zero_le _, Nat.zero_le _⟩ dX4_uneven_3 (ct_X4_within ⟨hk, ⟨by omega, by omega⟩, ⟨by omega, by omega⟩⟩) (fun x_3 g_3 hk_3 => ?_)
  obtain ⟨e_3, hb_3, hi_3⟩ := hk_3
  have e_3 := e_3.symm
  subst e_3
  refine j_if_ne C (tgt := 12) dX4_uneven_6 (by decide) (by first | omega | (refine ⟨?_, ?_⟩ <;> omega) | exact hw _ _ | exact nrm_R _) (fun c_6 => ?_) (fun c_6 => ?_)
  · refine j_aload_n C dX4_uneven_12 rfl ?_
    refine j_getR C fX4_uneven_19 rfl rfl dX4_uneven_13 ?_
    refine j_iload_n C dX4_uneven_16 rfl ?_
    refine j_if_ne C (tgt := 24) dX4_uneven_17 (by decide) (by first | omega | (refine ⟨?_, ?_⟩ <;> omega) | exact hw _ _ | exact nrm_R _) (fun c_17 => ?_) (fun c_17 => ?_)
    · refine j_iconst C dX4_uneven_24 ?_
      refine j_callVi1 C vX4_uneven_126 rfl rfl (Nat.le_of_ble_eq_true rfl) ⟨Nat.zero_le _, Nat.zero_le _⟩ dX4_uneven_25 (ct_X2_unevenness ⟨hL, by omega⟩) (fun x_25 g_25 hk_25 => ?_)
      obtain ⟨e_25, rfl⟩ := hk_25
      have e_25 := e_25.symm
      subst e_25
      refine j_iretI C dX4_uneven_28 (by intro h; cases h) (fun hw9 => ?_)
      refine ⟨rfl, ?_⟩
      unfold rUneven
      rw [if_pos (show 0 ≤ k ∧ k ≤ 1 by omega)]
      first
      | (rw [if_pos c_17]; done)
      | (rw [if_neg c_17]; done)
    · refine j_iconst C dX4_uneven_20 ?_
      refine j_goto C (tgt := 25) dX4_uneven_21 (by decide) ?_
      refine j_callVi1 C vX4_uneven_126 rfl rfl (Nat.le_of_ble_eq_true rfl) ⟨Nat.zero_le _, Nat.zero_le _⟩ dX4_uneven_25 (ct_X2_unevenness ⟨hL, by omega⟩) (fun x_25 g_25 hk_25 => ?_)
      obtain ⟨e_25, rfl⟩ := hk_25
      have e_25 := e_25.symm
      subst e_25
      refine j_iretI C dX4_uneven_28 (by intro h; cases h) (fun hw9 => ?_)
      refine ⟨rfl, ?_⟩
      unfold rUneven
      rw [if_pos (show 0 ≤ k ∧ k ≤ 1 by omega)]
      first
      | (rw [if_pos c_17]; done)
      | (rw [if_neg c_17]; done)
  · refine j_bipush C dX4_uneven_9 (by decide +kernel) ?_
    refine j_iretI C dX4_uneven_11 (by intro h; cases h) (fun hw9 => ?_)
    exact ⟨rfl, by unfold rUneven; rw [if_neg (show ¬ (0 ≤ k ∧ k ≤ 1) by omega)]⟩
set_option maxHeartbeats 4000000 in
set_option maxRecDepth 100000 in
theorem ct_X4_kind {w v b : Int} {g : AG} (h : aR w ∧ aR v ∧ aR b ∧ 0 ≤ g 12 4 ∧ g 12 4 ≤ 4) : MetI yX4_kind wsX4_kind rmX4_kind ShW [.inr 0, .inl w, .inl v, .inl b] g (fun x g' => x = rKind (g 12 4) w v b ∧ g' = (if 0 ≤ x then setK g w v b else g)) := by
  refine metI_of (cc := cX4_kind) (nL := 4) false (by decide +kernel) rfl (Nat.le_of_ble_eq_true rfl) (fun q J C => ?_)
  show J q ShW 0 0 0 [some (.inr 0), some (.inl w), some (.inl v), some (.inl b)] [] g
  refine j_wf C (fun hw => ?_)
  obtain ⟨h1, h2, h3, h4, h5⟩ := h
  refine j_iload_n C dX4_kind_0 rfl ?_
  refine j_iconst C dX4_kind_1 ?_
  refine j_bipush C dX4_kind_2 (by decide +kernel) ?_
  refine j_callSi3 C vX4_kind_39 rfl (Nat.le_of_ble_eq_true rfl) ⟨Nat.zero_le _, Nat.zero_le _⟩ dX4_kind_4 (ct_X4_within ⟨h1, ⟨by omega, by omega⟩, ⟨by omega, by omega⟩⟩) (fun x_4 g_4 hk_4 => ?_)
  obtain ⟨e_4, hb_4, hi_4⟩ := hk_4
  have e_4 := e_4.symm
  subst e_4
  refine j_if_eq C (tgt := 32) dX4_kind_7 (by decide) (by first | omega | (refine ⟨?_, ?_⟩ <;> omega) | exact hw _ _ | exact nrm_R _) (fun c_7 => ?_) (fun c_7 => ?_)
  · refine j_bipush C dX4_kind_32 (by decide +kernel) ?_
    refine j_iretI C dX4_kind_34 (by intro h; cases h) (fun hw9 => ?_)
    unfold rKind
    rw [if_neg (by omega)]
    exact ⟨rfl, by rw [if_neg (by decide)]⟩
  · refine j_iload_n C dX4_kind_10 rfl ?_
    refine j_iconst C dX4_kind_11 ?_
    refine j_sipush C dX4_kind_12 (by decide +kernel) ?_
    refine j_callSi3 C vX4_kind_39 rfl (Nat.le_of_ble_eq_true rfl) ⟨Nat.zero_le _, Nat.zero_le _⟩ dX4_kind_15 (ct_X4_within ⟨h2, ⟨by omega, by omega⟩, ⟨by omega, by omega⟩⟩) (fun x_15 g_15 hk_15 => ?_)
    obtain ⟨e_15, hb_15, hi_15⟩ := hk_15
    have e_15 := e_15.symm
    subst e_15
    refine j_if_eq C (tgt := 32) dX4_kind_18 (by decide) (by first | omega | (refine ⟨?_, ?_⟩ <;> omega) | exact hw _ _ | exact nrm_R _) (fun c_18 => ?_) (fun c_18 => ?_)
    · refine j_bipush C dX4_kind_32 (by decide +kernel) ?_
      refine j_iretI C dX4_kind_34 (by intro h; cases h) (fun hw9 => ?_)
      unfold rKind
      rw [if_neg (by omega)]
      exact ⟨rfl, by rw [if_neg (by decide)]⟩
    · refine j_iload_n C dX4_kind_21 rfl ?_
      refine j_iconst C dX4_kind_22 ?_
      refine j_sipush C dX4_kind_23 (by decide +kernel) ?_
      refine j_callSi3 C vX4_kind_39 rfl (Nat.le_of_ble_eq_true rfl) ⟨Nat.zero_le _, Nat.zero_le _⟩ dX4_kind_26 (ct_X4_within ⟨h3, ⟨by omega, by omega⟩, ⟨by omega, by omega⟩⟩) (fun x_26 g_26 hk_26 => ?_)
      obtain ⟨e_26, hb_26, hi_26⟩ := hk_26
      have e_26 := e_26.symm
      subst e_26
      refine j_if_ne C (tgt := 35) dX4_kind_29 (by decide) (by first | omega | (refine ⟨?_, ?_⟩ <;> omega) | exact hw _ _ | exact nrm_R _) (fun c_29 => ?_) (fun c_29 => ?_)
      · refine j_aload_n C dX4_kind_35 rfl ?_
        refine j_getR C fX4_kind_28 rfl rfl dX4_kind_36 ?_
        refine j_callVi0 C vX4_kind_133 rfl rfl (Nat.le_of_ble_eq_true rfl) ⟨Nat.zero_le _, Nat.zero_le _⟩ dX4_kind_39 (ct_X3_count ) (fun x_39 g_39 hk_39 => ?_)
        obtain ⟨e_39, rfl⟩ := hk_39
        have e_39 := e_39.symm
        subst e_39
        refine j_iconst C dX4_kind_42 ?_
        refine j_icmp_lt C (tgt := 49) dX4_kind_43 (by decide) (by first | omega | (refine ⟨?_, ?_⟩ <;> omega) | exact hw _ _ | exact nrm_R _) (by first | omega | (refine ⟨?_, ?_⟩ <;> omega) | exact hw _ _ | exact nrm_R _) (fun c_43 => ?_) (fun c_43 => ?_)
        · refine j_aload_n C dX4_kind_49 rfl ?_
          refine j_getR C fX4_kind_28 rfl rfl dX4_kind_50 ?_
          refine j_iload_n C dX4_kind_53 rfl ?_
          refine j_iload_n C dX4_kind_54 rfl ?_
          refine j_iload_n C dX4_kind_55 rfl ?_
          refine j_callVi3 C vX4_kind_134 rfl rfl (Nat.le_of_ble_eq_true rfl) ⟨Nat.zero_le _, Nat.zero_le _⟩ dX4_kind_56 (ct_X3_add ⟨h1, h2, h3, h4, by omega⟩) (fun x_56 g_56 hk_56 => ?_)
          obtain ⟨rfl, rfl⟩ := hk_56
          refine j_iretI C dX4_kind_59 (by intro h; cases h) (fun hw9 => ?_)
          unfold rKind
          rw [if_pos (by omega), if_neg (by omega)]
          exact ⟨rfl, by rw [if_pos h4]⟩
        · refine j_bipush C dX4_kind_46 (by decide +kernel) ?_
          refine j_iretI C dX4_kind_48 (by intro h; cases h) (fun hw9 => ?_)
          unfold rKind
          rw [if_pos (by omega), if_pos (by omega)]
          exact ⟨rfl, by rw [if_neg (by decide)]⟩
      · refine j_bipush C dX4_kind_32 (by decide +kernel) ?_
        refine j_iretI C dX4_kind_34 (by intro h; cases h) (fun hw9 => ?_)
        unfold rKind
        rw [if_neg (by omega)]
        exact ⟨rfl, by rw [if_neg (by decide)]⟩
set_option maxHeartbeats 4000000 in
set_option maxRecDepth 100000 in
theorem ct_X4_canLie {k p : Int} {g : AG} (h : LX g ∧ KX g ∧ aR k ∧ aR p) : MetI yX4_canLie wsX4_canLie rmX4_canLie ShW [.inr 0, .inl k, .inl p] g (fun x g' => g' = g ∧ x = rLie (g 12 4) (g 8 2) k p (lieP (g 13 k.toNat) (g 15 k.toNat) (g 8 2) (szX g) p)) := by
  refine metI_of (cc := cX4_canLie) (nL := 3) false (by decide +kernel) rfl (Nat.le_of_ble_eq_true rfl) (fun q J C => ?_)
  show J q ShW 0 0 0 [some (.inr 0), some (.inl k), some (.inl p)] [] g
  refine j_wf C (fun hw => ?_)
  obtain ⟨hL, hK, h1, h2⟩ := h
  have hn := hL.1
  have hk := hK.1
  refine j_iload_n C dX4_canLie_0 rfl ?_
  refine j_iconst C dX4_canLie_1 ?_
  refine j_aload_n C dX4_canLie_2 rfl ?_
  refine j_getR C fX4_canLie_28 rfl rfl dX4_canLie_3 ?_
  refine j_callVi0 C vX4_canLie_133 rfl rfl (Nat.le_of_ble_eq_true rfl) ⟨Nat.zero_le _, Nat.zero_le _⟩ dX4_canLie_6 (ct_X3_count ) (fun x_6 g_6 hk_6 => ?_)
  obtain ⟨e_6, rfl⟩ := hk_6
  have e_6 := e_6.symm
  subst e_6
  refine j_iconst C dX4_canLie_9 ?_
  refine j_isub C dX4_canLie_10 ?_
  refine j_callSi3 C vX4_canLie_39 rfl (Nat.le_of_ble_eq_true rfl) ⟨Nat.zero_le _, Nat.zero_le _⟩ dX4_canLie_11 (ct_X4_within ⟨h1, ⟨by omega, by omega⟩, ⟨by omega, by omega⟩⟩) (fun x_11 g_11 hk_11 => ?_)
  obtain ⟨e_11, hb_11, hi_11⟩ := hk_11
  have e_11 := e_11.symm
  subst e_11
  refine j_if_eq C (tgt := 25) dX4_canLie_14 (by decide) (by first | omega | (refine ⟨?_, ?_⟩ <;> omega) | exact hw _ _ | exact nrm_R _) (fun c_14 => ?_) (fun c_14 => ?_)
  · refine j_iconst C dX4_canLie_25 ?_
    refine j_iretI C dX4_canLie_26 (by intro h; cases h) (fun hw9 => ?_)
    exact ⟨rfl, by unfold rLie; rw [if_neg (by omega)]⟩
  · refine j_aload_n C dX4_canLie_17 rfl ?_
    refine j_iload_n C dX4_canLie_18 rfl ?_
    refine j_callVi1 C vX4_canLie_55 rfl rfl (Nat.le_of_ble_eq_true rfl) ⟨Nat.zero_le _, Nat.zero_le _⟩ dX4_canLie_19 (ct_X4_isPlace ⟨h2, by omega, by omega⟩) (fun x_19 g_19 hk_19 => ?_)
    obtain ⟨e_19, hb_19, hi_19⟩ := hk_19
    have e_19 := e_19.symm
    subst e_19
    refine j_if_ne C (tgt := 27) dX4_canLie_22 (by decide) (by first | omega | (refine ⟨?_, ?_⟩ <;> omega) | exact hw _ _ | exact nrm_R _) (fun c_22 => ?_) (fun c_22 => ?_)
    · refine j_aload_n C dX4_canLie_27 rfl ?_
      refine j_getR C fX4_canLie_28 rfl rfl dX4_canLie_28 ?_
      refine j_iload_n C dX4_canLie_31 rfl ?_
      refine j_iload_n C dX4_canLie_32 rfl ?_
      refine j_callVi2 C vX4_canLie_137 rfl rfl (Nat.le_of_ble_eq_true rfl) ⟨Nat.zero_le _, Nat.zero_le _⟩ dX4_canLie_33 (ct_X3_lies ⟨hL, hK, by omega, by omega, by omega, by omega⟩) (fun x_33 g_33 hk_33 => ?_)
      obtain ⟨e_33, hb_33, hi_33⟩ := hk_33
      have e_33 := e_33.symm
      subst e_33
      refine j_if_eq C (tgt := 43) dX4_canLie_36 (by decide) (by first | omega | (refine ⟨?_, ?_⟩ <;> omega) | exact hw _ _ | exact nrm_R _) (fun c_36 => ?_) (fun c_36 => ?_)
      · refine j_iconst C dX4_canLie_43 ?_
        refine j_iretI C dX4_canLie_44 (by intro h; cases h) (fun hw9 => ?_)
        refine ⟨rfl, ?_⟩
        unfold rLie
        first
        | (rw [if_pos (by omega), cif_t (hi_33.mp (by omega))]; done)
        | (rw [if_pos (by omega), cif_f (fun h => by have := hi_33.mpr h; omega)]; done)
      · refine j_iconst C dX4_canLie_39 ?_
        refine j_goto C (tgt := 44) dX4_canLie_40 (by decide) ?_
        refine j_iretI C dX4_canLie_44 (by intro h; cases h) (fun hw9 => ?_)
        refine ⟨rfl, ?_⟩
        unfold rLie
        first
        | (rw [if_pos (by omega), cif_t (hi_33.mp (by omega))]; done)
        | (rw [if_pos (by omega), cif_f (fun h => by have := hi_33.mpr h; omega)]; done)
    · refine j_iconst C dX4_canLie_25 ?_
      refine j_iretI C dX4_canLie_26 (by intro h; cases h) (fun hw9 => ?_)
      exact ⟨rfl, by unfold rLie; rw [if_neg (by omega)]⟩
set_option maxHeartbeats 4000000 in
set_option maxRecDepth 100000 in
theorem ct_X4_grade {g : AG} (h : 0 ≤ g 18 0 ∧ g 18 0 ≤ 9) : MetI yX4_grade wsX4_grade rmX4_grade ShW [.inr 0] g (fun x g' => x = (if 9 ≤ g 18 0 then -4 else g 18 0) ∧ g' = (if 0 ≤ x then aset (aset g 18 3 0) 18 0 (g 18 0 + 1) else g)) := by
  refine metI_of (cc := cX4_grade) (nL := 1) false (by decide +kernel) rfl (Nat.le_of_ble_eq_true rfl) (fun q J C => ?_)
  show J q ShW 0 0 0 [some (.inr 0)] [] g
  refine j_wf C (fun hw => ?_)
  refine j_aload_n C dX4_grade_0 rfl ?_
  refine j_getR C fX4_grade_35 rfl rfl dX4_grade_1 ?_
  refine j_callVi0 C vX4_grade_146 rfl rfl (Nat.le_of_ble_eq_true rfl) ⟨Nat.zero_le _, Nat.zero_le _⟩ dX4_grade_4 (ct_X1_count ) (fun x_4 g_4 hk_4 => ?_)
  obtain ⟨e_4, rfl⟩ := hk_4
  have e_4 := e_4.symm
  subst e_4
  refine j_bipush C dX4_grade_7 (by decide +kernel) ?_
  refine j_icmp_lt C (tgt := 15) dX4_grade_9 (by decide) (by first | omega | (refine ⟨?_, ?_⟩ <;> omega) | exact hw _ _ | exact nrm_R _) (by first | omega | (refine ⟨?_, ?_⟩ <;> omega) | exact hw _ _ | exact nrm_R _) (fun c_9 => ?_) (fun c_9 => ?_)
  · refine j_aload_n C dX4_grade_15 rfl ?_
    refine j_getR C fX4_grade_35 rfl rfl dX4_grade_16 ?_
    refine j_callVi0 C vX4_grade_147 rfl rfl (Nat.le_of_ble_eq_true rfl) ⟨Nat.zero_le _, Nat.zero_le _⟩ dX4_grade_19 (ct_X1_add (by omega)) (fun x_19 g_19 hk_19 => ?_)
    obtain ⟨rfl, rfl⟩ := hk_19
    refine j_iretI C dX4_grade_22 (by intro h; cases h) (fun hw9 => ?_)
    rw [if_neg (by omega)]
    exact ⟨rfl, by rw [if_pos h.1]⟩
  · refine j_bipush C dX4_grade_12 (by decide +kernel) ?_
    refine j_iretI C dX4_grade_14 (by intro h; cases h) (fun hw9 => ?_)
    rw [if_pos (by omega)]
    exact ⟨rfl, by rw [if_neg (by decide)]⟩
set_option maxHeartbeats 4000000 in
set_option maxRecDepth 100000 in
theorem ct_X4_cost {a b v : Int} {g : AG} (h : aR a ∧ aR b ∧ aR v ∧ 0 ≤ g 18 0 ∧ g 18 0 ≤ 9 ∧ ∀ j, 0 ≤ g 19 j) : MetI yX4_cost wsX4_cost rmX4_cost ShW [.inr 0, .inl a, .inl b, .inl v] g (fun x g' => x = rCost (g 18 0) a b v (g 19 (a * 9 + b).toNat) ∧ g' = (if 0 ≤ x then aset (aset g 19 (a * 9 + b).toNat v) 18 3 0 else g)) := by
  refine metI_of (cc := cX4_cost) (nL := 4) false (by decide +kernel) rfl (Nat.le_of_ble_eq_true rfl) (fun q J C => ?_)
  show J q ShW 0 0 0 [some (.inr 0), some (.inl a), some (.inl b), some (.inl v)] [] g
  refine j_wf C (fun hw => ?_)
  obtain ⟨h1, h2, h3, h4, h5, h6⟩ := h
  have h7 := h6 (a * 9 + b).toNat
  refine j_aload_n C dX4_cost_0 rfl ?_
  refine j_iload_n C dX4_cost_1 rfl ?_
  refine j_callVi1 C vX4_cost_149 rfl rfl (Nat.le_of_ble_eq_true rfl) ⟨Nat.zero_le _, Nat.zero_le _⟩ dX4_cost_2 (ct_X4_isGrade ⟨h1, h4, h5⟩) (fun x_2 g_2 hk_2 => ?_)
  obtain ⟨e_2, hb_2, hi_2⟩ := hk_2
  have e_2 := e_2.symm
  subst e_2
  refine j_if_eq C (tgt := 16) dX4_cost_5 (by decide) (by first | omega | (refine ⟨?_, ?_⟩ <;> omega) | exact h1 | exact h2 | exact h3) (fun c_5 => ?_) (fun c_5 => ?_)
  · refine j_iconst C dX4_cost_16 ?_
    refine j_iretI C dX4_cost_17 (by intro h; cases h) (fun hw9 => ?_)
    unfold rCost
    rw [if_neg (by omega)]
    exact ⟨rfl, by rw [if_neg (by decide)]⟩
  · refine j_aload_n C dX4_cost_8 rfl ?_
    refine j_iload_n C dX4_cost_9 rfl ?_
    refine j_callVi1 C vX4_cost_149 rfl rfl (Nat.le_of_ble_eq_true rfl) ⟨Nat.zero_le _, Nat.zero_le _⟩ dX4_cost_10 (ct_X4_isGrade ⟨h2, h4, h5⟩) (fun x_10 g_10 hk_10 => ?_)
    obtain ⟨e_10, hb_10, hi_10⟩ := hk_10
    have e_10 := e_10.symm
    subst e_10
    refine j_if_ne C (tgt := 18) dX4_cost_13 (by decide) (by first | omega | (refine ⟨?_, ?_⟩ <;> omega) | exact h1 | exact h2 | exact h3) (fun c_13 => ?_) (fun c_13 => ?_)
    · refine j_iload_n C dX4_cost_18 rfl ?_
      refine j_iconst C dX4_cost_19 ?_
      refine j_sipush C dX4_cost_20 (by decide +kernel) ?_
      refine j_callSi3 C vX4_cost_39 rfl (Nat.le_of_ble_eq_true rfl) ⟨Nat.zero_le _, Nat.zero_le _⟩ dX4_cost_23 (ct_X4_within ⟨h3, ⟨by omega, by omega⟩, ⟨by omega, by omega⟩⟩) (fun x_23 g_23 hk_23 => ?_)
      obtain ⟨e_23, hb_23, hi_23⟩ := hk_23
      have e_23 := e_23.symm
      subst e_23
      refine j_if_ne C (tgt := 32) dX4_cost_26 (by decide) (by first | omega | (refine ⟨?_, ?_⟩ <;> omega) | exact h1 | exact h2 | exact h3) (fun c_26 => ?_) (fun c_26 => ?_)
      · refine j_iload_n C dX4_cost_32 rfl ?_
        refine j_iload_n C dX4_cost_33 rfl ?_
        refine j_icmp_ne C (tgt := 40) dX4_cost_34 (by decide) (by first | omega | (refine ⟨?_, ?_⟩ <;> omega) | exact h1 | exact h2 | exact h3) (by first | omega | (refine ⟨?_, ?_⟩ <;> omega) | exact h1 | exact h2 | exact h3) (fun c_34 => ?_) (fun c_34 => ?_)
        · refine j_aload_n C dX4_cost_40 rfl ?_
          refine j_getR C fX4_cost_35 rfl rfl dX4_cost_41 ?_
          refine j_iload_n C dX4_cost_44 rfl ?_
          refine j_iload_n C dX4_cost_45 rfl ?_
          refine j_iload_n C dX4_cost_46 rfl ?_
          refine j_callVi3 C vX4_cost_152 rfl rfl (Nat.le_of_ble_eq_true rfl) ⟨Nat.zero_le _, Nat.zero_le _⟩ dX4_cost_47 (ct_X1_putCost ⟨by omega, by omega, by omega, by omega, h3⟩) (fun x_47 g_47 hk_47 => ?_)
          obtain ⟨rfl, rfl⟩ := hk_47
          refine j_iretI C dX4_cost_50 (by intro h; cases h) (fun hw9 => ?_)
          unfold rCost
          rw [if_pos (by omega), if_pos (by omega), if_neg (by omega)]
          exact ⟨rfl, by rw [if_pos h7]⟩
        · refine j_bipush C dX4_cost_37 (by decide +kernel) ?_
          refine j_iretI C dX4_cost_39 (by intro h; cases h) (fun hw9 => ?_)
          unfold rCost
          rw [if_pos (by omega), if_pos (by omega), if_pos (by omega)]
          exact ⟨rfl, by rw [if_neg (by decide)]⟩
      · refine j_bipush C dX4_cost_29 (by decide +kernel) ?_
        refine j_iretI C dX4_cost_31 (by intro h; cases h) (fun hw9 => ?_)
        unfold rCost
        rw [if_pos (by omega), if_neg (by omega)]
        exact ⟨rfl, by rw [if_neg (by decide)]⟩
    · refine j_iconst C dX4_cost_16 ?_
      refine j_iretI C dX4_cost_17 (by intro h; cases h) (fun hw9 => ?_)
      unfold rCost
      rw [if_neg (by omega)]
      exact ⟨rfl, by rw [if_neg (by decide)]⟩
set_option maxHeartbeats 4000000 in
set_option maxRecDepth 100000 in
theorem ct_X4_told {w : Int} {g : AG} (h : aR w) : MetI yX4_told wsX4_told rmX4_told ShW [.inr 0, .inl w] g (fun x g' => g' = g ∧ x = rTold (g 8 2) (g 1 4) (g 1 5) (g 12 4) (g 18 0) (g 8 3) (g 8 4) (g 8 5) (g 8 6) w) := by
  refine metI_of (cc := cX4_told) (nL := 2) false (by decide +kernel) rfl (Nat.le_of_ble_eq_true rfl) (fun q J C => ?_)
  show J q ShW 0 0 0 [some (.inr 0), some (.inl w)] [] g
  refine j_wf C (fun hw => ?_)
  refine j_iload_n C dX4_told_0 rfl ?_
  refine j_tsw9 C (td := 124) (t0 := 52) (t1 := 60) (t2 := 68) (t3 := 76) (t4 := 84) (t5 := 92) (t6 := 100) (t7 := 108) (t8 := 116) dX4_told_1 (by decide) ⟨by decide, by decide, by decide, by decide, by decide, by decide, by decide, by decide, by decide⟩ (by exact h) (fun c_1 => ?_) (fun c_1 => ?_) (fun c_1 => ?_) (fun c_1 => ?_) (fun c_1 => ?_) (fun c_1 => ?_) (fun c_1 => ?_) (fun c_1 => ?_) (fun c_1 => ?_) (fun c_1 => ?_)
  · refine j_aload_n C dX4_told_52 rfl ?_
    refine j_getR C fX4_told_19 rfl rfl dX4_told_53 ?_
    refine j_callVi0 C vX4_told_43 rfl rfl (Nat.le_of_ble_eq_true rfl) ⟨Nat.zero_le _, Nat.zero_le _⟩ dX4_told_56 (ct_X2_places ) (fun x_56 g_56 hk_56 => ?_)
    obtain ⟨e_56, rfl⟩ := hk_56
    have e_56 := e_56.symm
    subst e_56
    refine j_iretI C dX4_told_59 (by intro h; cases h) (fun hw9 => ?_)
    refine ⟨rfl, ?_⟩
    unfold rTold
    simp only [c_1]
    all_goals first | rfl | (simp; done)
  · refine j_aload_n C dX4_told_60 rfl ?_
    refine j_getR C fX4_told_10 rfl rfl dX4_told_61 ?_
    refine j_callVi0 C vX4_told_62 rfl rfl (Nat.le_of_ble_eq_true rfl) ⟨Nat.zero_le _, Nat.zero_le _⟩ dX4_told_64 (ct_X0_count ) (fun x_64 g_64 hk_64 => ?_)
    obtain ⟨e_64, rfl⟩ := hk_64
    have e_64 := e_64.symm
    subst e_64
    refine j_iretI C dX4_told_67 (by intro h; cases h) (fun hw9 => ?_)
    refine ⟨rfl, ?_⟩
    unfold rTold
    simp only [c_1]
    all_goals first | rfl | (simp; done)
  · refine j_aload_n C dX4_told_68 rfl ?_
    refine j_getR C fX4_told_10 rfl rfl dX4_told_69 ?_
    refine j_callVi0 C vX4_told_161 rfl rfl (Nat.le_of_ble_eq_true rfl) ⟨Nat.zero_le _, Nat.zero_le _⟩ dX4_told_72 (ct_X0_fittingCount ) (fun x_72 g_72 hk_72 => ?_)
    obtain ⟨e_72, rfl⟩ := hk_72
    have e_72 := e_72.symm
    subst e_72
    refine j_iretI C dX4_told_75 (by intro h; cases h) (fun hw9 => ?_)
    refine ⟨rfl, ?_⟩
    unfold rTold
    simp only [c_1]
    all_goals first | rfl | (simp; done)
  · refine j_aload_n C dX4_told_76 rfl ?_
    refine j_getR C fX4_told_28 rfl rfl dX4_told_77 ?_
    refine j_callVi0 C vX4_told_133 rfl rfl (Nat.le_of_ble_eq_true rfl) ⟨Nat.zero_le _, Nat.zero_le _⟩ dX4_told_80 (ct_X3_count ) (fun x_80 g_80 hk_80 => ?_)
    obtain ⟨e_80, rfl⟩ := hk_80
    have e_80 := e_80.symm
    subst e_80
    refine j_iretI C dX4_told_83 (by intro h; cases h) (fun hw9 => ?_)
    refine ⟨rfl, ?_⟩
    unfold rTold
    simp only [c_1]
    all_goals first | rfl | (simp; done)
  · refine j_aload_n C dX4_told_84 rfl ?_
    refine j_getR C fX4_told_35 rfl rfl dX4_told_85 ?_
    refine j_callVi0 C vX4_told_146 rfl rfl (Nat.le_of_ble_eq_true rfl) ⟨Nat.zero_le _, Nat.zero_le _⟩ dX4_told_88 (ct_X1_count ) (fun x_88 g_88 hk_88 => ?_)
    obtain ⟨e_88, rfl⟩ := hk_88
    have e_88 := e_88.symm
    subst e_88
    refine j_iretI C dX4_told_91 (by intro h; cases h) (fun hw9 => ?_)
    refine ⟨rfl, ?_⟩
    unfold rTold
    simp only [c_1]
    all_goals first | rfl | (simp; done)
  · refine j_aload_n C dX4_told_92 rfl ?_
    refine j_getR C fX4_told_19 rfl rfl dX4_told_93 ?_
    refine j_callVi0 C vX4_told_164 rfl rfl (Nat.le_of_ble_eq_true rfl) ⟨Nat.zero_le _, Nat.zero_le _⟩ dX4_told_96 (ct_X2_nextLaw ) (fun x_96 g_96 hk_96 => ?_)
    obtain ⟨e_96, rfl⟩ := hk_96
    have e_96 := e_96.symm
    subst e_96
    refine j_iretI C dX4_told_99 (by intro h; cases h) (fun hw9 => ?_)
    refine ⟨rfl, ?_⟩
    unfold rTold
    simp only [c_1]
    all_goals first | rfl | (simp; done)
  · refine j_aload_n C dX4_told_100 rfl ?_
    refine j_getR C fX4_told_19 rfl rfl dX4_told_101 ?_
    refine j_callVi0 C vX4_told_167 rfl rfl (Nat.le_of_ble_eq_true rfl) ⟨Nat.zero_le _, Nat.zero_le _⟩ dX4_told_104 (ct_X2_bendLaw ) (fun x_104 g_104 hk_104 => ?_)
    obtain ⟨e_104, rfl⟩ := hk_104
    have e_104 := e_104.symm
    subst e_104
    refine j_iretI C dX4_told_107 (by intro h; cases h) (fun hw9 => ?_)
    refine ⟨rfl, ?_⟩
    unfold rTold
    simp only [c_1]
    all_goals first | rfl | (simp; done)
  · refine j_aload_n C dX4_told_108 rfl ?_
    refine j_getR C fX4_told_19 rfl rfl dX4_told_109 ?_
    refine j_callVi0 C vX4_told_170 rfl rfl (Nat.le_of_ble_eq_true rfl) ⟨Nat.zero_le _, Nat.zero_le _⟩ dX4_told_112 (ct_X2_mainSpread ) (fun x_112 g_112 hk_112 => ?_)
    obtain ⟨e_112, rfl⟩ := hk_112
    have e_112 := e_112.symm
    subst e_112
    refine j_iretI C dX4_told_115 (by intro h; cases h) (fun hw9 => ?_)
    refine ⟨rfl, ?_⟩
    unfold rTold
    simp only [c_1]
    all_goals first | rfl | (simp; done)
  · refine j_aload_n C dX4_told_116 rfl ?_
    refine j_getR C fX4_told_19 rfl rfl dX4_told_117 ?_
    refine j_callVi0 C vX4_told_173 rfl rfl (Nat.le_of_ble_eq_true rfl) ⟨Nat.zero_le _, Nat.zero_le _⟩ dX4_told_120 (ct_X2_sideSpread ) (fun x_120 g_120 hk_120 => ?_)
    obtain ⟨e_120, rfl⟩ := hk_120
    have e_120 := e_120.symm
    subst e_120
    refine j_iretI C dX4_told_123 (by intro h; cases h) (fun hw9 => ?_)
    refine ⟨rfl, ?_⟩
    unfold rTold
    simp only [c_1]
    all_goals first | rfl | (simp; done)
  · refine j_sipush C dX4_told_124 (by decide +kernel) ?_
    refine j_iretI C dX4_told_127 (by intro h; cases h) (fun hw9 => ?_)
    refine ⟨rfl, ?_⟩
    unfold rTold
    rw [if_neg (by omega), if_neg (by omega), if_neg (by omega), if_neg (by omega), if_neg (by omega), if_neg (by omega), if_neg (by omega), if_neg (by omega), if_neg (by omega)]
